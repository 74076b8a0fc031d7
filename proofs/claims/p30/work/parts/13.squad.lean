set_option maxRecDepth 100000 in
set_option maxHeartbeats 4000000 in
/-- floorMod of two that are not negative -/
theorem k_J9_floorMod_7cf53 (l : Launch) (G : va_G) (cI cZ cJ : ClassId) (x : Nat) (d : Nat) (hx : x < 2 ^ 31) (hd0 : 0 < d) (hd : d < 2 ^ 31) : MI (Unit) l yJ9_floorMod_7cf53 cJ9_floorMod_7cf53 3 0 0 G (tY cI cZ cJ) [.int (nI x), .int (nI d)] ([]) (fun zr _ => zr = nI (x % d)) (fun _ => []) 0 0 := by
  refine zMI_ofF (by decide +kernel) (Nat.le_of_ble_eq_true rfl) [(0, .int (nI x)), (1, .int (nI d))] rfl ?_
  intro p e s m below meth c hC hr hlocks hname
  have hC : Cx p s m _ c cJ9_floorMod_7cf53 3 RJ9 G (tY cI cZ cJ) _ := hC
  refine z_iload_n (n := 1) hC dJ9_floorMod_7cf53_0 rfl 0 rfl rfl ?_
  refine z_iload_n (n := 2) hC dJ9_floorMod_7cf53_1 rfl 1 rfl rfl ?_
  refine z_irem (v := nI (x % d)) (n := 3) hC dJ9_floorMod_7cf53_2 (nI_ne0 hd0 hd) (pk_rem hx hd0 hd) rfl ?_
  refine z_istore_n (lv' := [(2, .int (nI (x % d))), (0, .int (nI x)), (1, .int (nI d))]) (n := 4) hC dJ9_floorMod_7cf53_3 rfl (by decide) rfl rfl ?_
  refine z_iload_n (n := 5) hC dJ9_floorMod_7cf53_4 rfl 1 rfl rfl ?_
  refine z_iload_n (n := 6) hC dJ9_floorMod_7cf53_5 rfl 2 rfl rfl ?_
  refine z_ixor (v := nI (x ^^^ d)) (n := 7) hC dJ9_floorMod_7cf53_6 (xor_nI x d) rfl ?_
  refine z_if_ge (tgt := 18) (n := 10) hC dJ9_floorMod_7cf53_7 (by decide) rfl (fun c1 => ?_) (fun c1 => absurd (nI_pos' (Nat.xor_lt_two_pow hx hd)) c1)
  refine z_iload_n (n := 19) hC dJ9_floorMod_7cf53_18 rfl 0 rfl rfl ?_
  refine z_iret hC hr hlocks () ?_ rfl dJ9_floorMod_7cf53_19 (by omega) (by omega)
  rfl

set_option maxRecDepth 100000 in
set_option maxHeartbeats 4000000 in
/-- the clay of a turn -/
theorem k_X2_clayIn (l : Launch) (G : va_G) (cI cZ cJ : ClassId) (T : Nat) (hT : T < 2 ^ 30) : MI (Unit) l yX2_clayIn cX2_clayIn 1 1 22 G (tY cI cZ cJ) [.int (nI T)] ([]) (fun zr _ => zr = nI (T % 5)) (fun _ => []) 0 0 := by
  refine MI_of (by decide) (Nat.le_of_ble_eq_true rfl) [(0, .int (nI T))] rfl ?_
  intro p e s m below meth c hC hr hlocks hname
  have hC : Cx p s m _ c cX2_clayIn 1 RX2 G (tY cI cZ cJ) _ := hC
  refine z_iload_n (n := 1) hC dX2_clayIn_0 rfl 0 rfl rfl ?_
  refine z_iconst (v := nI 5) (n := 2) hC dX2_clayIn_1 (by decide) rfl ?_
  refine z_callsi (R := { frames := 1, cells := 0, slots := 0, locals := 22 }) (cells := 0) (slots := 0) (ws := []) (n := 5) (As := [.int (nI T), .int (nI 5)]) (rest := []) hC (k_J9_floorMod_7cf53 l G cI cZ cJ T 5 (by omega) (by omega) (by omega)) kg_X2_217 kd_yJ9_floorMod_7cf53 dX2_clayIn_2 ⟨Nat.le_of_ble_eq_true rfl, Nat.le_of_ble_eq_true rfl⟩ [] rfl (by decide) rfl (Nat.le_of_ble_eq_true rfl) ⟨Nat.le_of_ble_eq_true rfl, Nat.le_of_ble_eq_true rfl⟩ (ws2 := fun u1 => []) [] (fun _ => rfl) ([]) (fun _ => rfl) rfl (fun _ => rfl) [] (fun _ => rfl) rfl rfl rfl (fun r2 u1 h3 => ?_)
  subst h3
  refine z_iret hC hr hlocks () ?_ rfl dX2_clayIn_5 (by omega) (by omega)
  rfl

set_option maxRecDepth 100000 in
set_option maxHeartbeats 4000000 in
/-- the stand of a gun in a turn -/
theorem k_X2_standIn (l : Launch) (G : va_G) (cI cZ cJ : ClassId) (T : Nat) (g : Nat) (hT : T < 2 ^ 30) (hg : g < 6) : MI (Unit) l yX2_standIn cX2_standIn 2 1 22 G (tY cI cZ cJ) [.int (nI T), .int (nI g)] ([]) (fun zr _ => zr = nI (stF T g)) (fun _ => []) 0 0 := by
  refine MI_of (by decide) (Nat.le_of_ble_eq_true rfl) [(0, .int (nI T)), (1, .int (nI g))] rfl ?_
  intro p e s m below meth c hC hr hlocks hname
  have hC : Cx p s m _ c cX2_standIn 2 RX2 G (tY cI cZ cJ) _ := hC
  refine z_iload_n (n := 1) hC dX2_standIn_0 rfl 1 rfl rfl ?_
  refine z_iload_n (n := 2) hC dX2_standIn_1 rfl 0 rfl rfl ?_
  refine z_iconst (v := nI 5) (n := 3) hC dX2_standIn_2 (by decide) rfl ?_
  refine z_idiv (v := nI (T / 5)) (n := 4) hC dX2_standIn_3 (by decide) (pk_div (by omega) (by omega) (by omega)) rfl ?_
  refine z_iadd (v := nI (g + T / 5)) (n := 5) hC dX2_standIn_4 (nI_add g (T / 5)) rfl ?_
  refine z_iconst (v := nI 5) (n := 6) hC dX2_standIn_5 (by decide) rfl ?_
  refine z_callsi (R := { frames := 1, cells := 0, slots := 0, locals := 22 }) (cells := 0) (slots := 0) (ws := []) (n := 9) (As := [.int (nI (g + T / 5)), .int (nI 5)]) (rest := []) hC (k_J9_floorMod_7cf53 l G cI cZ cJ (g + T / 5) 5 (by omega) (by omega) (by omega)) kg_X2_217 kd_yJ9_floorMod_7cf53 dX2_standIn_6 ⟨Nat.le_of_ble_eq_true rfl, Nat.le_of_ble_eq_true rfl⟩ [] rfl (by decide) rfl (Nat.le_of_ble_eq_true rfl) ⟨Nat.le_of_ble_eq_true rfl, Nat.le_of_ble_eq_true rfl⟩ (ws2 := fun u1 => []) [] (fun _ => rfl) ([]) (fun _ => rfl) rfl (fun _ => rfl) [] (fun _ => rfl) rfl rfl rfl (fun r2 u1 h3 => ?_)
  subst h3
  refine z_iret hC hr hlocks () ?_ rfl dX2_standIn_9 (by omega) (by omega)
  rfl

set_option maxRecDepth 100000 in
set_option maxHeartbeats 4000000 in
/-- the angle of a clay at a stand -/
theorem k_X1_angleAt (l : Launch) (G : va_G) (cI cZ cJ : ClassId) (a : Nat → Nat) (b : Nat → Int32) (r : Nat → Int32) (s0 : Nat) (c0 : Nat) (hs : s0 < 5) : MI (Unit) l yX1_angleAt cX1_angleAt 3 0 0 G (tY cI cZ cJ) [.ref (a 0), .int (nI s0), .int (nI c0)] (wT a cI b r) (fun zr _ => zr = angF b r s0 c0) (fun _ => wT a cI b r) 0 0 := by
  refine MI_of (by decide) (Nat.le_of_ble_eq_true rfl) [(0, .ref (a 0)), (1, .int (nI s0)), (2, .int (nI c0))] rfl ?_
  intro p e s m below meth c hC hr hlocks hname
  have hC : Cx p s m _ c cX1_angleAt 3 RX1 G (tY cI cZ cJ) _ := hC
  refine z_aload_n (n := 1) hC dX1_angleAt_0 rfl 0 rfl rfl ?_
  refine gf_X1_9 (v := .ref (a 1)) (n := 4) hC 0 rfl rfl dX1_angleAt_1 rfl ?_
  refine z_iload_n (n := 5) hC dX1_angleAt_4 rfl 1 rfl rfl ?_
  refine z_iald (v := b s0) (n := 6) hC 1 0 s0 rfl rfl rfl (by omega) (by decide) dX1_angleAt_5 rfl rfl ?_
  refine z_aload_n (n := 7) hC dX1_angleAt_6 rfl 0 rfl rfl ?_
  refine gf_X1_15 (v := .ref (a 2)) (n := 10) hC 0 rfl rfl dX1_angleAt_7 rfl ?_
  refine z_iload_n (n := 11) hC dX1_angleAt_10 rfl 1 rfl rfl ?_
  refine z_iald (v := r s0) (n := 12) hC 2 0 s0 rfl rfl rfl (by omega) (by decide) dX1_angleAt_11 rfl rfl ?_
  refine z_iload_n (n := 13) hC dX1_angleAt_12 rfl 2 rfl rfl ?_
  refine z_iconst (v := nI 2) (n := 14) hC dX1_angleAt_13 (by decide) rfl ?_
  refine z_isub (v := (nI c0) - (nI 2)) (n := 15) hC dX1_angleAt_14 rfl rfl ?_
  refine z_imul (v := (r s0) * ((nI c0) - (nI 2))) (n := 16) hC dX1_angleAt_15 rfl rfl ?_
  refine z_iconst (v := nI 2) (n := 17) hC dX1_angleAt_16 (by decide) rfl ?_
  refine z_idiv (v := ((r s0) * ((nI c0) - (nI 2))) / (nI 2)) (n := 18) hC dX1_angleAt_17 (by decide) rfl rfl ?_
  refine z_iadd (v := (b s0) + (((r s0) * ((nI c0) - (nI 2))) / (nI 2))) (n := 19) hC dX1_angleAt_18 rfl rfl ?_
  refine z_iret hC hr hlocks () ?_ rfl dX1_angleAt_19 (by omega) (by omega)
  rfl

set_option maxRecDepth 100000 in
set_option maxHeartbeats 4000000 in
theorem k_X1_angleIn (l : Launch) (G : va_G) (cI cZ cJ : ClassId) (a : Nat → Nat) (b : Nat → Int32) (r : Nat → Int32) (T : Nat) (g : Nat) (hT : T < 2 ^ 30) (hg : g < 6) : MI (Unit) l yX1_angleIn cX1_angleIn 3 2 43 G (tY cI cZ cJ) [.ref (a 0), .int (nI T), .int (nI g)] (wT a cI b r) (fun zr _ => zr = angF b r (stF T g) (T % 5)) (fun _ => wT a cI b r) 0 0 := by
  refine MI_of (by decide) (Nat.le_of_ble_eq_true rfl) [(0, .ref (a 0)), (1, .int (nI T)), (2, .int (nI g))] rfl ?_
  intro p e s m below meth c hC hr hlocks hname
  have hC : Cx p s m _ c cX1_angleIn 3 RX1 G (tY cI cZ cJ) _ := hC
  refine z_aload_n (n := 1) hC dX1_angleIn_0 rfl 0 rfl rfl ?_
  refine z_iload_n (n := 2) hC dX1_angleIn_1 rfl 1 rfl rfl ?_
  refine z_iload_n (n := 3) hC dX1_angleIn_2 rfl 2 rfl rfl ?_
  refine z_callsiN (R := { frames := 2, cells := 0, slots := 0, locals := 43 }) (cells := 0) (slots := 0) (ws := wT a cI b r) (n := 6) (As := [.int (nI T), .int (nI g)]) (rest := [.ref (a 0)]) hC (k_X2_standIn l G cI cZ cJ T g (by omega) (by omega)) kg_X1_18 (by simp [zNW]) q84 q49 kd_yX2_standIn dX1_angleIn_3 ⟨Nat.le_of_ble_eq_true rfl, Nat.le_of_ble_eq_true rfl⟩ [] rfl (by decide) rfl (Nat.le_of_ble_eq_true rfl) ⟨Nat.le_of_ble_eq_true rfl, Nat.le_of_ble_eq_true rfl⟩ (ws2 := fun u1 => wT a cI b r) [0, 1, 2] (fun _ => rfl) (wT a cI b r) (fun _ => rfl) rfl (fun _ => rfl) [] (fun _ => rfl) rfl rfl rfl (fun r2 u1 h3 => ?_)
  subst h3
  refine z_iload_n (n := 7) hC dX1_angleIn_6 rfl 1 rfl rfl ?_
  refine z_callsiN (R := { frames := 2, cells := 0, slots := 0, locals := 43 }) (cells := 0) (slots := 0) (ws := wT a cI b r) (n := 10) (As := [.int (nI T)]) (rest := [.int (nI (stF T g)), .ref (a 0)]) hC (k_X2_clayIn l G cI cZ cJ T (by omega)) kg_X1_22 (by simp [zNW]) q90 q49 kd_yX2_clayIn dX1_angleIn_7 ⟨Nat.le_of_ble_eq_true rfl, Nat.le_of_ble_eq_true rfl⟩ [] rfl (by decide) rfl (Nat.le_of_ble_eq_true rfl) ⟨Nat.le_of_ble_eq_true rfl, Nat.le_of_ble_eq_true rfl⟩ (ws2 := fun u4 => wT a cI b r) [0, 1, 2] (fun _ => rfl) (wT a cI b r) (fun _ => rfl) rfl (fun _ => rfl) [] (fun _ => rfl) rfl rfl rfl (fun r5 u4 h6 => ?_)
  subst h6
  refine z_calli (R := { frames := 2, cells := 0, slots := 0, locals := 43 }) (cells := 0) (slots := 0) (ws := wT a cI b r) (n := 13) (As := [.int (nI (stF T g)), .int (nI (T % 5))]) (rest := []) hC (k_X1_angleAt l G cI cZ cJ a b r (stF T g) (T % 5) (Nat.mod_lt _ (by decide))) kg_X1_26 kd_yX1_angleAt dX1_angleIn_10 ⟨Nat.le_of_ble_eq_true rfl, Nat.le_of_ble_eq_true rfl⟩ 0 rfl rfl rfl [0, 1, 2] rfl (by decide) rfl (Nat.le_of_ble_eq_true rfl) ⟨Nat.le_of_ble_eq_true rfl, Nat.le_of_ble_eq_true rfl⟩ (ws2 := fun u7 => wT a cI b r) [] (fun _ => rfl) ([]) (fun _ => rfl) rfl (fun _ => rfl) [a 0, a 1, a 2] (fun _ => rfl) rfl rfl rfl (fun r8 u7 h9 => ?_)
  subst h9
  refine z_iret hC hr hlocks () ?_ rfl dX1_angleIn_13 (by omega) (by omega)
  rfl

set_option maxRecDepth 100000 in
set_option maxHeartbeats 4000000 in
theorem k_X1_amountAt (l : Launch) (G : va_G) (cI cZ cJ : ClassId) (a : Nat → Nat) (b : Nat → Int32) (r : Nat → Int32) (s0 : Nat) (c0 : Nat) (hs : s0 < 5) : MI (Unit) l yX1_amountAt cX1_amountAt 3 1 22 G (tY cI cZ cJ) [.ref (a 0), .int (nI s0), .int (nI c0)] (wT a cI b r) (fun zr _ => zr = absF (angF b r s0 c0)) (fun _ => wT a cI b r) 0 0 := by
  refine MI_of (by decide) (Nat.le_of_ble_eq_true rfl) [(0, .ref (a 0)), (1, .int (nI s0)), (2, .int (nI c0))] rfl ?_
  intro p e s m below meth c hC hr hlocks hname
  have hC : Cx p s m _ c cX1_amountAt 3 RX1 G (tY cI cZ cJ) _ := hC
  refine z_aload_n (n := 1) hC dX1_amountAt_0 rfl 0 rfl rfl ?_
  refine z_iload_n (n := 2) hC dX1_amountAt_1 rfl 1 rfl rfl ?_
  refine z_iload_n (n := 3) hC dX1_amountAt_2 rfl 2 rfl rfl ?_
  refine z_calli (R := { frames := 1, cells := 0, slots := 0, locals := 22 }) (cells := 0) (slots := 0) (ws := wT a cI b r) (n := 6) (As := [.int (nI s0), .int (nI c0)]) (rest := []) hC (k_X1_angleAt l G cI cZ cJ a b r s0 c0 (by omega)) kg_X1_26 kd_yX1_angleAt dX1_amountAt_3 ⟨Nat.le_of_ble_eq_true rfl, Nat.le_of_ble_eq_true rfl⟩ 0 rfl rfl rfl [0, 1, 2] rfl (by decide) rfl (Nat.le_of_ble_eq_true rfl) ⟨Nat.le_of_ble_eq_true rfl, Nat.le_of_ble_eq_true rfl⟩ (ws2 := fun u1 => wT a cI b r) [] (fun _ => rfl) ([]) (fun _ => rfl) rfl (fun _ => rfl) [a 0, a 1, a 2] (fun _ => rfl) rfl rfl rfl (fun r2 u1 h3 => ?_)
  subst h3
  refine z_mabs (v := absF (angF b r s0 c0)) (n := 9) hC q95 q419 q88 q421 (by decide) (Nat.le_of_ble_eq_true rfl) (by omega) (by omega) dX1_amountAt_6 rfl rfl ?_
  refine z_iret hC hr hlocks () ?_ rfl dX1_amountAt_9 (by omega) (by omega)
  rfl

set_option maxRecDepth 100000 in
set_option maxHeartbeats 4000000 in
theorem k_X1_amountIn (l : Launch) (G : va_G) (cI cZ cJ : ClassId) (a : Nat → Nat) (b : Nat → Int32) (r : Nat → Int32) (T : Nat) (g : Nat) (hT : T < 2 ^ 30) (hg : g < 6) : MI (Unit) l yX1_amountIn cX1_amountIn 3 3 65 G (tY cI cZ cJ) [.ref (a 0), .int (nI T), .int (nI g)] (wT a cI b r) (fun zr _ => zr = amF b r T g) (fun _ => wT a cI b r) 0 0 := by
  refine MI_of (by decide) (Nat.le_of_ble_eq_true rfl) [(0, .ref (a 0)), (1, .int (nI T)), (2, .int (nI g))] rfl ?_
  intro p e s m below meth c hC hr hlocks hname
  have hC : Cx p s m _ c cX1_amountIn 3 RX1 G (tY cI cZ cJ) _ := hC
  refine z_aload_n (n := 1) hC dX1_amountIn_0 rfl 0 rfl rfl ?_
  refine z_iload_n (n := 2) hC dX1_amountIn_1 rfl 1 rfl rfl ?_
  refine z_iload_n (n := 3) hC dX1_amountIn_2 rfl 2 rfl rfl ?_
  refine z_calli (R := { frames := 3, cells := 0, slots := 0, locals := 65 }) (cells := 0) (slots := 0) (ws := wT a cI b r) (n := 6) (As := [.int (nI T), .int (nI g)]) (rest := []) hC (k_X1_angleIn l G cI cZ cJ a b r T g (by omega) (by omega)) kg_X1_34 kd_yX1_angleIn dX1_amountIn_3 ⟨Nat.le_of_ble_eq_true rfl, Nat.le_of_ble_eq_true rfl⟩ 0 rfl rfl rfl [0, 1, 2] rfl (by decide) rfl (Nat.le_of_ble_eq_true rfl) ⟨Nat.le_of_ble_eq_true rfl, Nat.le_of_ble_eq_true rfl⟩ (ws2 := fun u1 => wT a cI b r) [] (fun _ => rfl) ([]) (fun _ => rfl) rfl (fun _ => rfl) [a 0, a 1, a 2] (fun _ => rfl) rfl rfl rfl (fun r2 u1 h3 => ?_)
  subst h3
  refine z_mabs (v := absF (angF b r (stF T g) (T % 5))) (n := 9) hC q95 q419 q88 q421 (by decide) (Nat.le_of_ble_eq_true rfl) (by omega) (by omega) dX1_amountIn_6 rfl rfl ?_
  refine z_iret hC hr hlocks () ?_ rfl dX1_amountIn_9 (by omega) (by omega)
  rfl

set_option maxRecDepth 100000 in
set_option maxHeartbeats 4000000 in
/-- the hardest clay of a stand -/
theorem k_X1_hardestAt (l : Launch) (G : va_G) (cI cZ cJ : ClassId) (a : Nat → Nat) (b : Nat → Int32) (r : Nat → Int32) (s0 : Nat) (hs : s0 < 5) : MI (Unit) l yX1_hardestAt cX1_hardestAt 4 2 44 G (tY cI cZ cJ) [.ref (a 0), .int (nI s0)] (wT a cI b r) (fun zr _ => zr = nI (haF b r s0 4)) (fun _ => wT a cI b r) 0 0 := by
  refine MI_of (by decide) (Nat.le_of_ble_eq_true rfl) [(0, .ref (a 0)), (1, .int (nI s0))] rfl ?_
  intro p e s m below meth c hC hr hlocks hname
  have hC : Cx p s m _ c cX1_hardestAt 4 RX1 G (tY cI cZ cJ) _ := hC
  refine z_iconst (v := nI 0) (n := 1) hC dX1_hardestAt_0 (by decide) rfl ?_
  refine z_istore_n (lv' := [(2, .int (nI 0)), (0, .ref (a 0)), (1, .int (nI s0))]) (n := 2) hC dX1_hardestAt_1 rfl (by decide) rfl rfl ?_
  refine z_iconst (v := nI 1) (n := 3) hC dX1_hardestAt_2 (by decide) rfl ?_
  refine z_istore_n (lv' := [(3, .int (nI 1)), (2, .int (nI 0)), (0, .ref (a 0)), (1, .int (nI s0))]) (n := 4) hC dX1_hardestAt_3 rfl (by decide) rfl rfl ?_
  refine z_lv [2, 3, 1, 0] (lv' := [(0, .ref (a 0)), (1, .int (nI s0)), (2, .int (nI (haF b r s0 0))), (3, .int (nI (0 + 1)))]) rfl ?_
  refine z_loop 4 0 (fun i => wT a cI b r) (fun i => [(0, .ref (a 0)), (1, .int (nI s0)), (2, .int (nI (haF b r s0 i))), (3, .int (nI (i + 1)))]) (by omega) rfl rfl (fun i hi0 hi1 ih => ?_)
  refine z_iload_n (n := 5) hC dX1_hardestAt_4 rfl 3 rfl rfl ?_
  refine z_iconst (v := nI 5) (n := 6) hC dX1_hardestAt_5 (by decide) rfl ?_
  refine z_icmp_ge_n (tgt := 32) (n := 9) hC (i + 1) 5 rfl rfl (by omega) (by omega) dX1_hardestAt_6 (by decide) rfl (fun c1 => ?_) (fun c1 => ?_)
  · obtain rfl : 4 = i := by omega
    refine z_iload_n (n := 33) hC dX1_hardestAt_32 rfl 2 rfl rfl ?_
    refine z_iret hC hr hlocks () ?_ rfl dX1_hardestAt_33 (by omega) (by omega)
    rfl
  · refine z_aload_n (n := 10) hC dX1_hardestAt_9 rfl 0 rfl rfl ?_
    refine z_iload_n (n := 11) hC dX1_hardestAt_10 rfl 1 rfl rfl ?_
    refine z_iload_n (n := 12) hC dX1_hardestAt_11 rfl 3 rfl rfl ?_
    refine z_calli (R := { frames := 2, cells := 0, slots := 0, locals := 44 }) (cells := 0) (slots := 0) (ws := wT a cI b r) (n := 15) (As := [.int (nI s0), .int (nI (i + 1))]) (rest := []) hC (k_X1_amountAt l G cI cZ cJ a b r s0 (i + 1) (by omega)) kg_X1_37 kd_yX1_amountAt dX1_hardestAt_12 ⟨Nat.le_of_ble_eq_true rfl, Nat.le_of_ble_eq_true rfl⟩ 0 rfl rfl rfl [0, 1, 2] rfl (by decide) rfl (Nat.le_of_ble_eq_true rfl) ⟨Nat.le_of_ble_eq_true rfl, Nat.le_of_ble_eq_true rfl⟩ (ws2 := fun u2 => wT a cI b r) [] (fun _ => rfl) ([]) (fun _ => rfl) rfl (fun _ => rfl) [a 0, a 1, a 2] (fun _ => rfl) rfl rfl rfl (fun r3 u2 h4 => ?_)
    subst h4
    refine z_aload_n (n := 16) hC dX1_hardestAt_15 rfl 0 rfl rfl ?_
    refine z_iload_n (n := 17) hC dX1_hardestAt_16 rfl 1 rfl rfl ?_
    refine z_iload_n (n := 18) hC dX1_hardestAt_17 rfl 2 rfl rfl ?_
    refine z_calli (R := { frames := 2, cells := 0, slots := 0, locals := 44 }) (cells := 0) (slots := 0) (ws := wT a cI b r) (n := 21) (As := [.int (nI s0), .int (nI (haF b r s0 i))]) (rest := [.int (absF (angF b r s0 (i + 1)))]) hC (k_X1_amountAt l G cI cZ cJ a b r s0 (haF b r s0 i) (by omega)) kg_X1_37 kd_yX1_amountAt dX1_hardestAt_18 ⟨Nat.le_of_ble_eq_true rfl, Nat.le_of_ble_eq_true rfl⟩ 0 rfl rfl rfl [0, 1, 2] rfl (by decide) rfl (Nat.le_of_ble_eq_true rfl) ⟨Nat.le_of_ble_eq_true rfl, Nat.le_of_ble_eq_true rfl⟩ (ws2 := fun u5 => wT a cI b r) [] (fun _ => rfl) ([]) (fun _ => rfl) rfl (fun _ => rfl) [a 0, a 1, a 2] (fun _ => rfl) rfl rfl rfl (fun r6 u5 h7 => ?_)
    subst h7
    refine z_icmp_le (tgt := 26) (n := 24) hC dX1_hardestAt_21 (by decide) rfl (fun c8 => ?_) (fun c8 => ?_)
    · refine z_iinc (k0 := 3) (v := nI (i + 1 + 1)) (lv' := [(3, .int (nI (i + 1 + 1))), (0, .ref (a 0)), (1, .int (nI s0)), (2, .int (nI (haF b r s0 i)))]) (n := 29) hC dX1_hardestAt_26 rfl (nI_add (i + 1) 1) (by decide) rfl rfl ?_
      refine z_goto (n := 4) hC dX1_hardestAt_29 (by decide) ?_
      refine z_lv [1, 2, 3, 0] (lv' := [(0, .ref (a 0)), (1, .int (nI s0)), (2, .int (nI (haF b r s0 i))), (3, .int (nI (i + 1 + 1)))]) rfl ?_
      refine z_leq (lv' := [(0, .ref (a 0)), (1, .int (nI s0)), (2, .int (nI (haF b r s0 (i + 1)))), (3, .int (nI (i + 1 + 1)))]) (by simp only [haF, if_pos c1, if_pos c8]) ?_
      exact ih (i + 1) (by omega) (by omega)
    · refine z_iload_n (n := 25) hC dX1_hardestAt_24 rfl 3 rfl rfl ?_
      refine z_istore_n (lv' := [(2, .int (nI (i + 1))), (0, .ref (a 0)), (1, .int (nI s0)), (3, .int (nI (i + 1)))]) (n := 26) hC dX1_hardestAt_25 rfl (by decide) rfl rfl ?_
      refine z_iinc (k0 := 3) (v := nI (i + 1 + 1)) (lv' := [(3, .int (nI (i + 1 + 1))), (2, .int (nI (i + 1))), (0, .ref (a 0)), (1, .int (nI s0))]) (n := 29) hC dX1_hardestAt_26 rfl (nI_add (i + 1) 1) (by decide) rfl rfl ?_
      refine z_goto (n := 4) hC dX1_hardestAt_29 (by decide) ?_
      refine z_lv [2, 3, 1, 0] (lv' := [(0, .ref (a 0)), (1, .int (nI s0)), (2, .int (nI (i + 1))), (3, .int (nI (i + 1 + 1)))]) rfl ?_
      refine z_leq (lv' := [(0, .ref (a 0)), (1, .int (nI s0)), (2, .int (nI (haF b r s0 (i + 1)))), (3, .int (nI (i + 1 + 1)))]) (by simp only [haF, if_pos c1, if_neg c8]) ?_
      exact ih (i + 1) (by omega) (by omega)

set_option maxRecDepth 100000 in
set_option maxHeartbeats 4000000 in
theorem k_X1_greatestAmount (l : Launch) (G : va_G) (cI cZ cJ : ClassId) (a : Nat → Nat) (b : Nat → Int32) (r : Nat → Int32)  : MI (Unit) l yX1_greatestAmount cX1_greatestAmount 3 3 67 G (tY cI cZ cJ) [.ref (a 0)] (wT a cI b r) (fun zr _ => zr = grF b r (nI 0) 5) (fun _ => wT a cI b r) 0 0 := by
  refine MI_of (by decide) (Nat.le_of_ble_eq_true rfl) [(0, .ref (a 0))] rfl ?_
  intro p e s m below meth c hC hr hlocks hname
  have hC : Cx p s m _ c cX1_greatestAmount 3 RX1 G (tY cI cZ cJ) _ := hC
  refine z_iconst (v := nI 0) (n := 1) hC dX1_greatestAmount_0 (by decide) rfl ?_
  refine z_istore_n (lv' := [(1, .int (nI 0)), (0, .ref (a 0))]) (n := 2) hC dX1_greatestAmount_1 rfl (by decide) rfl rfl ?_
  refine z_iconst (v := nI 0) (n := 3) hC dX1_greatestAmount_2 (by decide) rfl ?_
  refine z_istore_n (lv' := [(2, .int (nI 0)), (1, .int (nI 0)), (0, .ref (a 0))]) (n := 4) hC dX1_greatestAmount_3 rfl (by decide) rfl rfl ?_
  refine z_lv [2, 1, 0] (lv' := [(0, .ref (a 0)), (1, .int (grF b r (nI 0) 0)), (2, .int (nI 0))]) rfl ?_
  refine z_loop 5 0 (fun i => wT a cI b r) (fun i => [(0, .ref (a 0)), (1, .int (grF b r (nI 0) i)), (2, .int (nI i))]) (by omega) rfl rfl (fun i hi0 hi1 ih => ?_)
  have hle := haF_le b r i 4
  refine z_iload_n (n := 5) hC dX1_greatestAmount_4 rfl 2 rfl rfl ?_
  refine z_iconst (v := nI 5) (n := 6) hC dX1_greatestAmount_5 (by decide) rfl ?_
  refine z_icmp_ge_n (tgt := 30) (n := 9) hC i 5 rfl rfl (by omega) (by omega) dX1_greatestAmount_6 (by decide) rfl (fun c1 => ?_) (fun c1 => ?_)
  · obtain rfl : 5 = i := by omega
    refine z_iload_n (n := 31) hC dX1_greatestAmount_30 rfl 1 rfl rfl ?_
    refine z_iret hC hr hlocks () ?_ rfl dX1_greatestAmount_31 (by omega) (by omega)
    rfl
  · refine z_iload_n (n := 10) hC dX1_greatestAmount_9 rfl 1 rfl rfl ?_
    refine z_aload_n (n := 11) hC dX1_greatestAmount_10 rfl 0 rfl rfl ?_
    refine z_iload_n (n := 12) hC dX1_greatestAmount_11 rfl 2 rfl rfl ?_
    refine z_aload_n (n := 13) hC dX1_greatestAmount_12 rfl 0 rfl rfl ?_
    refine z_iload_n (n := 14) hC dX1_greatestAmount_13 rfl 2 rfl rfl ?_
    refine z_calli (R := { frames := 3, cells := 0, slots := 0, locals := 67 }) (cells := 0) (slots := 0) (ws := wT a cI b r) (n := 17) (As := [.int (nI i)]) (rest := [.int (nI i), .ref (a 0), .int (grF b r (nI 0) i)]) hC (k_X1_hardestAt l G cI cZ cJ a b r i (by omega)) kg_X1_40 kd_yX1_hardestAt dX1_greatestAmount_14 ⟨Nat.le_of_ble_eq_true rfl, Nat.le_of_ble_eq_true rfl⟩ 0 rfl rfl rfl [0, 1, 2] rfl (by decide) rfl (Nat.le_of_ble_eq_true rfl) ⟨Nat.le_of_ble_eq_true rfl, Nat.le_of_ble_eq_true rfl⟩ (ws2 := fun u2 => wT a cI b r) [] (fun _ => rfl) ([]) (fun _ => rfl) rfl (fun _ => rfl) [a 0, a 1, a 2] (fun _ => rfl) rfl rfl rfl (fun r3 u2 h4 => ?_)
    subst h4
    refine z_calli (R := { frames := 3, cells := 0, slots := 0, locals := 67 }) (cells := 0) (slots := 0) (ws := wT a cI b r) (n := 20) (As := [.int (nI i), .int (nI (haF b r i 4))]) (rest := [.int (grF b r (nI 0) i)]) hC (k_X1_amountAt l G cI cZ cJ a b r i (haF b r i 4) (by omega)) kg_X1_37 kd_yX1_amountAt dX1_greatestAmount_17 ⟨Nat.le_of_ble_eq_true rfl, Nat.le_of_ble_eq_true rfl⟩ 0 rfl rfl rfl [0, 1, 2] rfl (by decide) rfl (Nat.le_of_ble_eq_true rfl) ⟨Nat.le_of_ble_eq_true rfl, Nat.le_of_ble_eq_true rfl⟩ (ws2 := fun u5 => wT a cI b r) [] (fun _ => rfl) ([]) (fun _ => rfl) rfl (fun _ => rfl) [a 0, a 1, a 2] (fun _ => rfl) rfl rfl rfl (fun r6 u5 h7 => ?_)
    subst h7
    refine z_mmax (v := maxF (grF b r (nI 0) i) (absF (angF b r i (haF b r i 4)))) (n := 23) hC q253 q420 q88 q422 (by decide) (Nat.le_of_ble_eq_true rfl) (by omega) (by omega) dX1_greatestAmount_20 rfl rfl ?_
    refine z_istore_n (lv' := [(1, .int (maxF (grF b r (nI 0) i) (absF (angF b r i (haF b r i 4))))), (0, .ref (a 0)), (2, .int (nI i))]) (n := 24) hC dX1_greatestAmount_23 rfl (by decide) rfl rfl ?_
    refine z_iinc (k0 := 2) (v := nI (i + 1)) (lv' := [(2, .int (nI (i + 1))), (1, .int (maxF (grF b r (nI 0) i) (absF (angF b r i (haF b r i 4))))), (0, .ref (a 0))]) (n := 27) hC dX1_greatestAmount_24 rfl (nI_add i 1) (by decide) rfl rfl ?_
    refine z_goto (n := 4) hC dX1_greatestAmount_27 (by decide) ?_
    refine z_lv [2, 1, 0] (lv' := [(0, .ref (a 0)), (1, .int (grF b r (nI 0) (i + 1))), (2, .int (nI (i + 1)))]) rfl ?_
    exact ih (i + 1) (by omega) (by omega)

set_option maxRecDepth 100000 in
set_option maxHeartbeats 4000000 in
theorem k_X0_enter (l : Launch) (G : va_G) (cI cZ cJ : ClassId) (a : Nat → Nat) (sw : Nat → Int32) (st : Nat → Int32) (fa : Nat → Int32) (sc : Nat → Int32) (fi : Nat → Int32) (mi : Nat → Int32) (lf : Nat → Bool) (hi : Nat → Bool) (n : Nat) (x : Int32) (y : Int32) (hn : n < 6) : MI (Unit) l yX0_enter cX0_enter 4 0 0 G (tY cI cZ cJ) [.ref (a 0), .int x, .int y] (wS a cI cZ sw st fa sc fi mi lf hi n) (fun zr _ => zr = nI n) (fun _ => wS a cI cZ (upd sw n x) (upd st n y) fa sc fi mi lf hi (n + 1)) 0 0 := by
  refine MI_of (by decide) (Nat.le_of_ble_eq_true rfl) [(0, .ref (a 0)), (1, .int x), (2, .int y)] rfl ?_
  intro p e s m below meth c hC hr hlocks hname
  have hC : Cx p s m _ c cX0_enter 4 RX0 G (tY cI cZ cJ) _ := hC
  refine z_aload_n (n := 1) hC dX0_enter_0 rfl 0 rfl rfl ?_
  refine gf_X0_37 (v := .int (nI n)) (n := 4) hC 0 rfl rfl dX0_enter_1 rfl ?_
  refine z_istore_n (lv' := [(3, .int (nI n)), (0, .ref (a 0)), (1, .int x), (2, .int y)]) (n := 5) hC dX0_enter_4 rfl (by decide) rfl rfl ?_
  refine z_aload_n (n := 6) hC dX0_enter_5 rfl 1 rfl rfl ?_
  refine gf_X0_9 (v := .ref (a 1)) (n := 9) hC 0 rfl rfl dX0_enter_6 rfl ?_
  refine z_iload_n (n := 10) hC dX0_enter_9 rfl 0 rfl rfl ?_
  refine z_iload_n (n := 11) hC dX0_enter_10 rfl 2 rfl rfl ?_
  refine z_iast (ws' := wS a cI cZ (upd sw n x) st fa sc fi mi lf hi n) (n := 12) hC 1 0 n rfl rfl rfl (by omega) (by decide) dX0_enter_11 rfl rfl rfl ?_
  refine z_aload_n (n := 13) hC dX0_enter_12 rfl 1 rfl rfl ?_
  refine gf_X0_15 (v := .ref (a 2)) (n := 16) hC 0 rfl rfl dX0_enter_13 rfl ?_
  refine z_iload_n (n := 17) hC dX0_enter_16 rfl 0 rfl rfl ?_
  refine z_iload_n (n := 18) hC dX0_enter_17 rfl 3 rfl rfl ?_
  refine z_iast (ws' := wS a cI cZ (upd sw n x) (upd st n y) fa sc fi mi lf hi n) (n := 19) hC 2 0 n rfl rfl rfl (by omega) (by decide) dX0_enter_18 rfl rfl rfl ?_
  refine z_aload_n (n := 20) hC dX0_enter_19 rfl 1 rfl rfl ?_
  refine z_iload_n (n := 21) hC dX0_enter_20 rfl 0 rfl rfl ?_
  refine z_iconst (v := nI 1) (n := 22) hC dX0_enter_21 (by decide) rfl ?_
  refine z_iadd (v := nI (n + 1)) (n := 23) hC dX0_enter_22 (nI_add n 1) rfl ?_
  refine pf_X0_37 (ws' := wS a cI cZ (upd sw n x) (upd st n y) fa sc fi mi lf hi (n + 1)) (n := 26) hC 0 rfl (Nat.le_of_ble_eq_true rfl) dX0_enter_23 rfl rfl ?_
  refine z_iload_n (n := 27) hC dX0_enter_26 rfl 0 rfl rfl ?_
  refine z_iret hC hr hlocks () ?_ rfl dX0_enter_27 (by omega) (by omega)
  rfl

set_option maxRecDepth 100000 in
set_option maxHeartbeats 4000000 in
/-- the guns of another squad -/
theorem k_X0_takeOver (l : Launch) (G : va_G) (cI cZ cJ : ClassId) (a : Nat → Nat) (sw : Nat → Int32) (st : Nat → Int32) (fa : Nat → Int32) (sc : Nat → Int32) (fi : Nat → Int32) (mi : Nat → Int32) (lf : Nat → Bool) (hi : Nat → Bool) (n : Nat) (a2 : Nat → Nat) (sw2 : Nat → Int32) (st2 : Nat → Int32) (fa2 : Nat → Int32) (sc2 : Nat → Int32) (fi2 : Nat → Int32) (mi2 : Nat → Int32) (lf2 : Nat → Bool) (hi2 : Nat → Bool) (n2 : Nat) (hn : n2 ≤ 6) : MV (Unit) l yX0_takeOver cX0_takeOver 3 0 0 G (tY cI cZ cJ) [.ref (a 0), .ref (a2 0)] ((wS a cI cZ sw st fa sc fi mi lf hi n) ++ (wS a2 cI cZ sw2 st2 fa2 sc2 fi2 mi2 lf2 hi2 n2)) (fun _ => True) (fun _ => (wS a cI cZ (pwF sw sw2 n2) (pwF st st2 n2) (pwF fa fa2 n2) (pwF sc sc2 n2) (pwF fi fi2 n2) (pwF mi mi2 n2) lf hi n2) ++ (wS a2 cI cZ sw2 st2 fa2 sc2 fi2 mi2 lf2 hi2 n2)) 0 0 := by
  refine MV_of (by decide) (Nat.le_of_ble_eq_true rfl) [(0, .ref (a 0)), (1, .ref (a2 0))] rfl ?_
  intro p e s m below meth c hC hr hlocks hname
  have hC : Cx p s m _ c cX0_takeOver 3 RX0 G (tY cI cZ cJ) _ := hC
  refine z_aload_n (n := 1) hC dX0_takeOver_0 rfl 0 rfl rfl ?_
  refine z_aload_n (n := 2) hC dX0_takeOver_1 rfl 1 rfl rfl ?_
  refine gf_X0_37 (v := .int (nI n2)) (n := 5) hC 9 rfl rfl dX0_takeOver_2 rfl ?_
  refine pf_X0_37 (ws' := (wS a cI cZ sw st fa sc fi mi lf hi n2) ++ (wS a2 cI cZ sw2 st2 fa2 sc2 fi2 mi2 lf2 hi2 n2)) (n := 8) hC 0 rfl (Nat.le_of_ble_eq_true rfl) dX0_takeOver_5 rfl rfl ?_
  refine z_iconst (v := nI 0) (n := 9) hC dX0_takeOver_8 (by decide) rfl ?_
  refine z_istore_n (lv' := [(2, .int (nI 0)), (0, .ref (a 0)), (1, .ref (a2 0))]) (n := 10) hC dX0_takeOver_9 rfl (by decide) rfl rfl ?_
  refine z_lv [1, 2, 0] (lv' := [(0, .ref (a 0)), (1, .ref (a2 0)), (2, .int (nI 0))]) rfl ?_
  refine z_weq (ws' := (wS a cI cZ (pwF sw sw2 0) (pwF st st2 0) (pwF fa fa2 0) (pwF sc sc2 0) (pwF fi fi2 0) (pwF mi mi2 0) lf hi n2) ++ (wS a2 cI cZ sw2 st2 fa2 sc2 fi2 mi2 lf2 hi2 n2)) (by simp only [pwF_0]) ?_
  refine z_loop n2 0 (fun i => (wS a cI cZ (pwF sw sw2 i) (pwF st st2 i) (pwF fa fa2 i) (pwF sc sc2 i) (pwF fi fi2 i) (pwF mi mi2 i) lf hi n2) ++ (wS a2 cI cZ sw2 st2 fa2 sc2 fi2 mi2 lf2 hi2 n2)) (fun i => [(0, .ref (a 0)), (1, .ref (a2 0)), (2, .int (nI i))]) (by omega) rfl rfl (fun i hi0 hi1 ih => ?_)
  refine z_iload_n (n := 11) hC dX0_takeOver_10 rfl 2 rfl rfl ?_
  refine z_aload_n (n := 12) hC dX0_takeOver_11 rfl 0 rfl rfl ?_
  refine gf_X0_37 (v := .int (nI n2)) (n := 15) hC 0 rfl rfl dX0_takeOver_12 rfl ?_
  refine z_icmp_ge_n (tgt := 96) (n := 18) hC i n2 rfl rfl (by omega) (by omega) dX0_takeOver_15 (by decide) rfl (fun c1 => ?_) (fun c1 => ?_)
  · obtain rfl : n2 = i := by omega
    refine z_vret hC hr hlocks () ?_ rfl dX0_takeOver_96 (by omega) (by omega)
    trivial
  · refine z_aload_n (n := 19) hC dX0_takeOver_18 rfl 0 rfl rfl ?_
    refine gf_X0_9 (v := .ref (a 1)) (n := 22) hC 0 rfl rfl dX0_takeOver_19 rfl ?_
    refine z_iload_n (n := 23) hC dX0_takeOver_22 rfl 2 rfl rfl ?_
    refine z_aload_n (n := 24) hC dX0_takeOver_23 rfl 1 rfl rfl ?_
    refine gf_X0_9 (v := .ref (a2 1)) (n := 27) hC 9 rfl rfl dX0_takeOver_24 rfl ?_
    refine z_iload_n (n := 28) hC dX0_takeOver_27 rfl 2 rfl rfl ?_
    refine z_iald (v := sw2 i) (n := 29) hC 10 0 i rfl rfl rfl (by omega) (by decide) dX0_takeOver_28 rfl rfl ?_
    refine z_iast (ws' := (wS a cI cZ (pwF sw sw2 (i + 1)) (pwF st st2 i) (pwF fa fa2 i) (pwF sc sc2 i) (pwF fi fi2 i) (pwF mi mi2 i) lf hi n2) ++ (wS a2 cI cZ sw2 st2 fa2 sc2 fi2 mi2 lf2 hi2 n2)) (n := 30) hC 1 0 i rfl rfl rfl (by omega) (by decide) dX0_takeOver_29 pwF_s rfl rfl ?_
    refine z_aload_n (n := 31) hC dX0_takeOver_30 rfl 0 rfl rfl ?_
    refine gf_X0_15 (v := .ref (a 2)) (n := 34) hC 0 rfl rfl dX0_takeOver_31 rfl ?_
    refine z_iload_n (n := 35) hC dX0_takeOver_34 rfl 2 rfl rfl ?_
    refine z_aload_n (n := 36) hC dX0_takeOver_35 rfl 1 rfl rfl ?_
    refine gf_X0_15 (v := .ref (a2 2)) (n := 39) hC 9 rfl rfl dX0_takeOver_36 rfl ?_
    refine z_iload_n (n := 40) hC dX0_takeOver_39 rfl 2 rfl rfl ?_
    refine z_iald (v := st2 i) (n := 41) hC 11 0 i rfl rfl rfl (by omega) (by decide) dX0_takeOver_40 rfl rfl ?_
    refine z_iast (ws' := (wS a cI cZ (pwF sw sw2 (i + 1)) (pwF st st2 (i + 1)) (pwF fa fa2 i) (pwF sc sc2 i) (pwF fi fi2 i) (pwF mi mi2 i) lf hi n2) ++ (wS a2 cI cZ sw2 st2 fa2 sc2 fi2 mi2 lf2 hi2 n2)) (n := 42) hC 2 0 i rfl rfl rfl (by omega) (by decide) dX0_takeOver_41 pwF_s rfl rfl ?_
    refine z_aload_n (n := 43) hC dX0_takeOver_42 rfl 0 rfl rfl ?_
    refine gf_X0_18 (v := .ref (a 3)) (n := 46) hC 0 rfl rfl dX0_takeOver_43 rfl ?_
    refine z_iload_n (n := 47) hC dX0_takeOver_46 rfl 2 rfl rfl ?_
    refine z_aload_n (n := 48) hC dX0_takeOver_47 rfl 1 rfl rfl ?_
    refine gf_X0_18 (v := .ref (a2 3)) (n := 51) hC 9 rfl rfl dX0_takeOver_48 rfl ?_
    refine z_iload_n (n := 52) hC dX0_takeOver_51 rfl 2 rfl rfl ?_
    refine z_iald (v := fa2 i) (n := 53) hC 12 0 i rfl rfl rfl (by omega) (by decide) dX0_takeOver_52 rfl rfl ?_
    refine z_iast (ws' := (wS a cI cZ (pwF sw sw2 (i + 1)) (pwF st st2 (i + 1)) (pwF fa fa2 (i + 1)) (pwF sc sc2 i) (pwF fi fi2 i) (pwF mi mi2 i) lf hi n2) ++ (wS a2 cI cZ sw2 st2 fa2 sc2 fi2 mi2 lf2 hi2 n2)) (n := 54) hC 3 0 i rfl rfl rfl (by omega) (by decide) dX0_takeOver_53 pwF_s rfl rfl ?_
    refine z_aload_n (n := 55) hC dX0_takeOver_54 rfl 0 rfl rfl ?_
    refine gf_X0_21 (v := .ref (a 4)) (n := 58) hC 0 rfl rfl dX0_takeOver_55 rfl ?_
    refine z_iload_n (n := 59) hC dX0_takeOver_58 rfl 2 rfl rfl ?_
    refine z_aload_n (n := 60) hC dX0_takeOver_59 rfl 1 rfl rfl ?_
    refine gf_X0_21 (v := .ref (a2 4)) (n := 63) hC 9 rfl rfl dX0_takeOver_60 rfl ?_
    refine z_iload_n (n := 64) hC dX0_takeOver_63 rfl 2 rfl rfl ?_
    refine z_iald (v := sc2 i) (n := 65) hC 13 0 i rfl rfl rfl (by omega) (by decide) dX0_takeOver_64 rfl rfl ?_
    refine z_iast (ws' := (wS a cI cZ (pwF sw sw2 (i + 1)) (pwF st st2 (i + 1)) (pwF fa fa2 (i + 1)) (pwF sc sc2 (i + 1)) (pwF fi fi2 i) (pwF mi mi2 i) lf hi n2) ++ (wS a2 cI cZ sw2 st2 fa2 sc2 fi2 mi2 lf2 hi2 n2)) (n := 66) hC 4 0 i rfl rfl rfl (by omega) (by decide) dX0_takeOver_65 pwF_s rfl rfl ?_
    refine z_aload_n (n := 67) hC dX0_takeOver_66 rfl 0 rfl rfl ?_
    refine gf_X0_24 (v := .ref (a 5)) (n := 70) hC 0 rfl rfl dX0_takeOver_67 rfl ?_
    refine z_iload_n (n := 71) hC dX0_takeOver_70 rfl 2 rfl rfl ?_
    refine z_aload_n (n := 72) hC dX0_takeOver_71 rfl 1 rfl rfl ?_
    refine gf_X0_24 (v := .ref (a2 5)) (n := 75) hC 9 rfl rfl dX0_takeOver_72 rfl ?_
    refine z_iload_n (n := 76) hC dX0_takeOver_75 rfl 2 rfl rfl ?_
    refine z_iald (v := fi2 i) (n := 77) hC 14 0 i rfl rfl rfl (by omega) (by decide) dX0_takeOver_76 rfl rfl ?_
    refine z_iast (ws' := (wS a cI cZ (pwF sw sw2 (i + 1)) (pwF st st2 (i + 1)) (pwF fa fa2 (i + 1)) (pwF sc sc2 (i + 1)) (pwF fi fi2 (i + 1)) (pwF mi mi2 i) lf hi n2) ++ (wS a2 cI cZ sw2 st2 fa2 sc2 fi2 mi2 lf2 hi2 n2)) (n := 78) hC 5 0 i rfl rfl rfl (by omega) (by decide) dX0_takeOver_77 pwF_s rfl rfl ?_
    refine z_aload_n (n := 79) hC dX0_takeOver_78 rfl 0 rfl rfl ?_
    refine gf_X0_27 (v := .ref (a 6)) (n := 82) hC 0 rfl rfl dX0_takeOver_79 rfl ?_
    refine z_iload_n (n := 83) hC dX0_takeOver_82 rfl 2 rfl rfl ?_
    refine z_aload_n (n := 84) hC dX0_takeOver_83 rfl 1 rfl rfl ?_
    refine gf_X0_27 (v := .ref (a2 6)) (n := 87) hC 9 rfl rfl dX0_takeOver_84 rfl ?_
    refine z_iload_n (n := 88) hC dX0_takeOver_87 rfl 2 rfl rfl ?_
    refine z_iald (v := mi2 i) (n := 89) hC 15 0 i rfl rfl rfl (by omega) (by decide) dX0_takeOver_88 rfl rfl ?_
    refine z_iast (ws' := (wS a cI cZ (pwF sw sw2 (i + 1)) (pwF st st2 (i + 1)) (pwF fa fa2 (i + 1)) (pwF sc sc2 (i + 1)) (pwF fi fi2 (i + 1)) (pwF mi mi2 (i + 1)) lf hi n2) ++ (wS a2 cI cZ sw2 st2 fa2 sc2 fi2 mi2 lf2 hi2 n2)) (n := 90) hC 6 0 i rfl rfl rfl (by omega) (by decide) dX0_takeOver_89 pwF_s rfl rfl ?_
    refine z_iinc (k0 := 2) (v := nI (i + 1)) (lv' := [(2, .int (nI (i + 1))), (0, .ref (a 0)), (1, .ref (a2 0))]) (n := 93) hC dX0_takeOver_90 rfl (nI_add i 1) (by decide) rfl rfl ?_
    refine z_goto (n := 10) hC dX0_takeOver_93 (by decide) ?_
    refine z_lv [1, 2, 0] (lv' := [(0, .ref (a 0)), (1, .ref (a2 0)), (2, .int (nI (i + 1)))]) rfl ?_
    exact ih (i + 1) (by omega) (by omega)

set_option maxRecDepth 100000 in
set_option maxHeartbeats 4000000 in
theorem k_X0_trouble (l : Launch) (G : va_G) (cI cZ cJ : ClassId) (a : Nat → Nat) (sw : Nat → Int32) (st : Nat → Int32) (fa : Nat → Int32) (sc : Nat → Int32) (fi : Nat → Int32) (mi : Nat → Int32) (lf : Nat → Bool) (hi : Nat → Bool) (n : Nat) (g : Nat) (am : Int32) (hg : g < 6) : MI (Unit) l yX0_trouble cX0_trouble 4 0 0 G (tY cI cZ cJ) [.ref (a 0), .int (nI g), .int am] (wS a cI cZ sw st fa sc fi mi lf hi n) (fun zr _ => zr = trF (st g) (fa g) am) (fun _ => wS a cI cZ sw st fa sc fi mi lf hi n) 0 0 := by
  refine MI_of (by decide) (Nat.le_of_ble_eq_true rfl) [(0, .ref (a 0)), (1, .int (nI g)), (2, .int am)] rfl ?_
  intro p e s m below meth c hC hr hlocks hname
  have hC : Cx p s m _ c cX0_trouble 4 RX0 G (tY cI cZ cJ) _ := hC
  refine z_aload_n (n := 1) hC dX0_trouble_0 rfl 0 rfl rfl ?_
  refine gf_X0_15 (v := .ref (a 2)) (n := 4) hC 0 rfl rfl dX0_trouble_1 rfl ?_
  refine z_iload_n (n := 5) hC dX0_trouble_4 rfl 1 rfl rfl ?_
  refine z_iald (v := st g) (n := 6) hC 2 0 g rfl rfl rfl (by omega) (by decide) dX0_trouble_5 rfl rfl ?_
  refine z_istore_n (lv' := [(3, .int (st g)), (0, .ref (a 0)), (1, .int (nI g)), (2, .int am)]) (n := 7) hC dX0_trouble_6 rfl (by decide) rfl rfl ?_
  refine z_iload_n (n := 8) hC dX0_trouble_7 rfl 0 rfl rfl ?_
  refine z_iconst (v := nI 1) (n := 9) hC dX0_trouble_8 (by decide) rfl ?_
  refine z_icmp_ge (tgt := 16) (n := 12) hC dX0_trouble_9 (by decide) rfl (fun c1 => ?_) (fun c1 => ?_)
  · refine z_iload_n (n := 17) hC dX0_trouble_16 rfl 3 rfl rfl ?_
    refine z_aload_n (n := 18) hC dX0_trouble_17 rfl 1 rfl rfl ?_
    refine gf_X0_18 (v := .ref (a 3)) (n := 21) hC 0 rfl rfl dX0_trouble_18 rfl ?_
    refine z_iload_n (n := 22) hC dX0_trouble_21 rfl 2 rfl rfl ?_
    refine z_iald (v := fa g) (n := 23) hC 3 0 g rfl rfl rfl (by omega) (by decide) dX0_trouble_22 rfl rfl ?_
    refine z_iload_n (n := 24) hC dX0_trouble_23 rfl 0 rfl rfl ?_
    refine z_idiv (v := fa g / st g) (n := 25) hC dX0_trouble_24 (ne0_1 c1) rfl rfl ?_
    refine z_iadd (v := am + (fa g / st g)) (n := 26) hC dX0_trouble_25 rfl rfl ?_
    refine z_iret hC hr hlocks () ?_ rfl dX0_trouble_26 (by omega) (by omega)
    simp only [trF, if_pos c1]
  · refine z_iload_n (n := 13) hC dX0_trouble_12 rfl 3 rfl rfl ?_
    refine z_goto (n := 26) hC dX0_trouble_13 (by decide) ?_
    refine z_iret hC hr hlocks () ?_ rfl dX0_trouble_26 (by omega) (by omega)
    simp only [trF, if_neg c1]

set_option maxRecDepth 100000 in
set_option maxHeartbeats 4000000 in
theorem k_X0_outcome (l : Launch) (G : va_G) (cI cZ cJ : ClassId) (a : Nat → Nat) (sw : Nat → Int32) (st : Nat → Int32) (fa : Nat → Int32) (sc : Nat → Int32) (fi : Nat → Int32) (mi : Nat → Int32) (lf : Nat → Bool) (hi : Nat → Bool) (n : Nat) (g : Nat) (am : Int32) (hg : g < 6) : MI (Unit) l yX0_outcome cX0_outcome 3 1 23 G (tY cI cZ cJ) [.ref (a 0), .int (nI g), .int am] (wS a cI cZ sw st fa sc fi mi lf hi n) (fun zr _ => zr = ouF (sw g) (st g) (fa g) am) (fun _ => wS a cI cZ sw st fa sc fi mi lf hi n) 0 0 := by
  refine MI_of (by decide) (Nat.le_of_ble_eq_true rfl) [(0, .ref (a 0)), (1, .int (nI g)), (2, .int am)] rfl ?_
  intro p e s m below meth c hC hr hlocks hname
  have hC : Cx p s m _ c cX0_outcome 3 RX0 G (tY cI cZ cJ) _ := hC
  refine z_aload_n (n := 1) hC dX0_outcome_0 rfl 0 rfl rfl ?_
  refine z_iload_n (n := 2) hC dX0_outcome_1 rfl 1 rfl rfl ?_
  refine z_iload_n (n := 3) hC dX0_outcome_2 rfl 2 rfl rfl ?_
  refine z_calli (R := { frames := 1, cells := 0, slots := 0, locals := 23 }) (cells := 0) (slots := 0) (ws := wS a cI cZ sw st fa sc fi mi lf hi n) (n := 6) (As := [.int (nI g), .int am]) (rest := []) hC (k_X0_trouble l G cI cZ cJ a sw st fa sc fi mi lf hi n g am (by omega)) kg_X0_41 kd_yX0_trouble dX0_outcome_3 ⟨Nat.le_of_ble_eq_true rfl, Nat.le_of_ble_eq_true rfl⟩ 0 rfl rfl rfl [0, 1, 2, 3, 4, 5, 6, 7, 8] rfl (by decide) rfl (Nat.le_of_ble_eq_true rfl) ⟨Nat.le_of_ble_eq_true rfl, Nat.le_of_ble_eq_true rfl⟩ (ws2 := fun u1 => wS a cI cZ sw st fa sc fi mi lf hi n) [] (fun _ => rfl) ([]) (fun _ => rfl) rfl (fun _ => rfl) [a 0, a 1, a 2, a 3, a 4, a 5, a 6, a 7, a 8] (fun _ => rfl) rfl rfl rfl (fun r2 u1 h3 => ?_)
  subst h3
  refine z_aload_n (n := 7) hC dX0_outcome_6 rfl 0 rfl rfl ?_
  refine gf_X0_9 (v := .ref (a 1)) (n := 10) hC 0 rfl rfl dX0_outcome_7 rfl ?_
  refine z_iload_n (n := 11) hC dX0_outcome_10 rfl 1 rfl rfl ?_
  refine z_iald (v := sw g) (n := 12) hC 1 0 g rfl rfl rfl (by omega) (by decide) dX0_outcome_11 rfl rfl ?_
  refine z_icmp_gt (tgt := 17) (n := 15) hC dX0_outcome_12 (by decide) rfl (fun c4 => ?_) (fun c4 => ?_)
  · refine z_iload_n (n := 18) hC dX0_outcome_17 rfl 2 rfl rfl ?_
    refine z_aload_n (n := 19) hC dX0_outcome_18 rfl 0 rfl rfl ?_
    refine gf_X0_9 (v := .ref (a 1)) (n := 22) hC 0 rfl rfl dX0_outcome_19 rfl ?_
    refine z_iload_n (n := 23) hC dX0_outcome_22 rfl 1 rfl rfl ?_
    refine z_iald (v := sw g) (n := 24) hC 1 0 g rfl rfl rfl (by omega) (by decide) dX0_outcome_23 rfl rfl ?_
    refine z_icmp_gt (tgt := 31) (n := 27) hC dX0_outcome_24 (by decide) rfl (fun c5 => ?_) (fun c5 => ?_)
    · refine z_iconst (v := nI 0) (n := 32) hC dX0_outcome_31 (by decide) rfl ?_
      refine z_iret hC hr hlocks () ?_ rfl dX0_outcome_32 (by omega) (by omega)
      simp only [ouF, if_pos c4, if_pos c5]
    · refine z_iconst (v := nI 1) (n := 28) hC dX0_outcome_27 (by decide) rfl ?_
      refine z_goto (n := 32) hC dX0_outcome_28 (by decide) ?_
      refine z_iret hC hr hlocks () ?_ rfl dX0_outcome_32 (by omega) (by omega)
      simp only [ouF, if_pos c4, if_neg c5]
  · refine z_iconst (v := nI 2) (n := 16) hC dX0_outcome_15 (by decide) rfl ?_
    refine z_iret hC hr hlocks () ?_ rfl dX0_outcome_16 (by omega) (by omega)
    simp only [ouF, if_neg c4]

set_option maxRecDepth 100000 in
set_option maxHeartbeats 4000000 in
/-- a shot -/
theorem k_X0_shoot (l : Launch) (G : va_G) (cI cZ cJ : ClassId) (a : Nat → Nat) (sw : Nat → Int32) (st : Nat → Int32) (fa : Nat → Int32) (sc : Nat → Int32) (fi : Nat → Int32) (mi : Nat → Int32) (lf : Nat → Bool) (hi : Nat → Bool) (n : Nat) (g : Nat) (am : Int32) (hg : g < 6) : MV (Unit) l yX0_shoot cX0_shoot 4 2 45 G (tY cI cZ cJ) [.ref (a 0), .int (nI g), .int am] (wS a cI cZ sw st fa sc fi mi lf hi n) (fun _ => True) (fun _ => wS a cI cZ sw st (upd fa g (shQ (ouF (sw g) (st g) (fa g) am) (sc g, fi g, mi g, fa g)).2.2.2) (upd sc g (shQ (ouF (sw g) (st g) (fa g) am) (sc g, fi g, mi g, fa g)).1) (upd fi g (shQ (ouF (sw g) (st g) (fa g) am) (sc g, fi g, mi g, fa g)).2.1) (upd mi g (shQ (ouF (sw g) (st g) (fa g) am) (sc g, fi g, mi g, fa g)).2.2.1) lf hi n) 0 0 := by
  refine MV_of (by decide) (Nat.le_of_ble_eq_true rfl) [(0, .ref (a 0)), (1, .int (nI g)), (2, .int am)] rfl ?_
  intro p e s m below meth c hC hr hlocks hname
  have hC : Cx p s m _ c cX0_shoot 4 RX0 G (tY cI cZ cJ) _ := hC
  refine z_aload_n (n := 1) hC dX0_shoot_0 rfl 0 rfl rfl ?_
  refine z_iload_n (n := 2) hC dX0_shoot_1 rfl 1 rfl rfl ?_
  refine z_iload_n (n := 3) hC dX0_shoot_2 rfl 2 rfl rfl ?_
  refine z_calli (R := { frames := 2, cells := 0, slots := 0, locals := 45 }) (cells := 0) (slots := 0) (ws := wS a cI cZ sw st fa sc fi mi lf hi n) (n := 6) (As := [.int (nI g), .int am]) (rest := []) hC (k_X0_outcome l G cI cZ cJ a sw st fa sc fi mi lf hi n g am (by omega)) kg_X0_45 kd_yX0_outcome dX0_shoot_3 ⟨Nat.le_of_ble_eq_true rfl, Nat.le_of_ble_eq_true rfl⟩ 0 rfl rfl rfl [0, 1, 2, 3, 4, 5, 6, 7, 8] rfl (by decide) rfl (Nat.le_of_ble_eq_true rfl) ⟨Nat.le_of_ble_eq_true rfl, Nat.le_of_ble_eq_true rfl⟩ (ws2 := fun u1 => wS a cI cZ sw st fa sc fi mi lf hi n) [] (fun _ => rfl) ([]) (fun _ => rfl) rfl (fun _ => rfl) [a 0, a 1, a 2, a 3, a 4, a 5, a 6, a 7, a 8] (fun _ => rfl) rfl rfl rfl (fun r2 u1 h3 => ?_)
  subst h3
  refine z_istore_n (lv' := [(3, .int (ouF (sw g) (st g) (fa g) am)), (0, .ref (a 0)), (1, .int (nI g)), (2, .int am)]) (n := 7) hC dX0_shoot_6 rfl (by decide) rfl rfl ?_
  refine z_aload_n (n := 8) hC dX0_shoot_7 rfl 1 rfl rfl ?_
  refine gf_X0_21 (v := .ref (a 4)) (n := 11) hC 0 rfl rfl dX0_shoot_8 rfl ?_
  refine z_iload_n (n := 12) hC dX0_shoot_11 rfl 2 rfl rfl ?_
  refine z_dup2 (n := 13) hC dX0_shoot_12 rfl rfl rfl ?_
  refine z_iald (v := sc g) (n := 14) hC 4 0 g rfl rfl rfl (by omega) (by decide) dX0_shoot_13 rfl rfl ?_
  refine z_iload_n (n := 15) hC dX0_shoot_14 rfl 0 rfl rfl ?_
  refine z_iadd (v := (sc g) + (ouF (sw g) (st g) (fa g) am)) (n := 16) hC dX0_shoot_15 rfl rfl ?_
  refine z_iast (ws' := wS a cI cZ sw st fa (upd sc g ((sc g) + (ouF (sw g) (st g) (fa g) am))) fi mi lf hi n) (n := 17) hC 4 0 g rfl rfl rfl (by omega) (by decide) dX0_shoot_16 rfl rfl rfl ?_
  refine z_aload_n (n := 18) hC dX0_shoot_17 rfl 1 rfl rfl ?_
  refine gf_X0_18 (v := .ref (a 3)) (n := 21) hC 0 rfl rfl dX0_shoot_18 rfl ?_
  refine z_iload_n (n := 22) hC dX0_shoot_21 rfl 2 rfl rfl ?_
  refine z_dup2 (n := 23) hC dX0_shoot_22 rfl rfl rfl ?_
  refine z_iald (v := fa g) (n := 24) hC 3 0 g rfl rfl rfl (by omega) (by decide) dX0_shoot_23 rfl rfl ?_
  refine z_iload_n (n := 25) hC dX0_shoot_24 rfl 0 rfl rfl ?_
  refine z_iconst (v := nI 2) (n := 26) hC dX0_shoot_25 (by decide) rfl ?_
  refine z_icmp_ne (tgt := 33) (n := 29) hC dX0_shoot_26 (by decide) rfl (fun c4 => ?_) (fun c4 => ?_)
  · refine z_iconst (v := nI 2) (n := 34) hC dX0_shoot_33 (by decide) rfl ?_
    refine z_iadd (v := (fa g) + (nI 2)) (n := 35) hC dX0_shoot_34 rfl rfl ?_
    refine z_iast (ws' := wS a cI cZ sw st (upd fa g ((fa g) + (nI 2))) (upd sc g ((sc g) + (ouF (sw g) (st g) (fa g) am))) fi mi lf hi n) (n := 36) hC 3 0 g rfl rfl rfl (by omega) (by decide) dX0_shoot_35 rfl rfl rfl ?_
    refine z_iload_n (n := 37) hC dX0_shoot_36 rfl 0 rfl rfl ?_
    refine z_iconst (v := nI 2) (n := 38) hC dX0_shoot_37 (by decide) rfl ?_
    refine z_icmp_ne (tgt := 51) (n := 41) hC dX0_shoot_38 (by decide) rfl (fun c5 => ?_) (fun c5 => absurd c5 c4)
    refine z_iload_n (n := 52) hC dX0_shoot_51 rfl 0 rfl rfl ?_
    refine z_if_ne (tgt := 65) (n := 55) hC dX0_shoot_52 (by decide) rfl (fun c6 => ?_) (fun c6 => ?_)
    · refine z_vret hC hr hlocks () ?_ (by simp only [shQ, if_neg c4, if_neg c6, upd_id]) dX0_shoot_65 (by omega) (by omega)
      trivial
    · refine z_aload_n (n := 56) hC dX0_shoot_55 rfl 1 rfl rfl ?_
      refine gf_X0_27 (v := .ref (a 6)) (n := 59) hC 0 rfl rfl dX0_shoot_56 rfl ?_
      refine z_iload_n (n := 60) hC dX0_shoot_59 rfl 2 rfl rfl ?_
      refine z_dup2 (n := 61) hC dX0_shoot_60 rfl rfl rfl ?_
      refine z_iald (v := mi g) (n := 62) hC 6 0 g rfl rfl rfl (by omega) (by decide) dX0_shoot_61 rfl rfl ?_
      refine z_iconst (v := nI 1) (n := 63) hC dX0_shoot_62 (by decide) rfl ?_
      refine z_iadd (v := (mi g) + (nI 1)) (n := 64) hC dX0_shoot_63 rfl rfl ?_
      refine z_iast (ws' := wS a cI cZ sw st (upd fa g ((fa g) + (nI 2))) (upd sc g ((sc g) + (ouF (sw g) (st g) (fa g) am))) fi (upd mi g ((mi g) + (nI 1))) lf hi n) (n := 65) hC 6 0 g rfl rfl rfl (by omega) (by decide) dX0_shoot_64 rfl rfl rfl ?_
      refine z_vret hC hr hlocks () ?_ (by simp only [shQ, if_neg c4, if_pos c6, upd_id]) dX0_shoot_65 (by omega) (by omega)
      trivial
  · refine z_iconst (v := nI 1) (n := 30) hC dX0_shoot_29 (by decide) rfl ?_
    refine z_goto (n := 34) hC dX0_shoot_30 (by decide) ?_
    refine z_iadd (v := (fa g) + (nI 1)) (n := 35) hC dX0_shoot_34 rfl rfl ?_
    refine z_iast (ws' := wS a cI cZ sw st (upd fa g ((fa g) + (nI 1))) (upd sc g ((sc g) + (ouF (sw g) (st g) (fa g) am))) fi mi lf hi n) (n := 36) hC 3 0 g rfl rfl rfl (by omega) (by decide) dX0_shoot_35 rfl rfl rfl ?_
    refine z_iload_n (n := 37) hC dX0_shoot_36 rfl 0 rfl rfl ?_
    refine z_iconst (v := nI 2) (n := 38) hC dX0_shoot_37 (by decide) rfl ?_
    refine z_icmp_ne (tgt := 51) (n := 41) hC dX0_shoot_38 (by decide) rfl (fun c7 => absurd c4 c7) (fun c7 => ?_)
    refine z_aload_n (n := 42) hC dX0_shoot_41 rfl 1 rfl rfl ?_
    refine gf_X0_24 (v := .ref (a 5)) (n := 45) hC 0 rfl rfl dX0_shoot_42 rfl ?_
    refine z_iload_n (n := 46) hC dX0_shoot_45 rfl 2 rfl rfl ?_
    refine z_dup2 (n := 47) hC dX0_shoot_46 rfl rfl rfl ?_
    refine z_iald (v := fi g) (n := 48) hC 5 0 g rfl rfl rfl (by omega) (by decide) dX0_shoot_47 rfl rfl ?_
    refine z_iconst (v := nI 1) (n := 49) hC dX0_shoot_48 (by decide) rfl ?_
    refine z_iadd (v := (fi g) + (nI 1)) (n := 50) hC dX0_shoot_49 rfl rfl ?_
    refine z_iast (ws' := wS a cI cZ sw st (upd fa g ((fa g) + (nI 1))) (upd sc g ((sc g) + (ouF (sw g) (st g) (fa g) am))) (upd fi g ((fi g) + (nI 1))) mi lf hi n) (n := 51) hC 5 0 g rfl rfl rfl (by omega) (by decide) dX0_shoot_50 rfl rfl rfl ?_
    refine z_iload_n (n := 52) hC dX0_shoot_51 rfl 0 rfl rfl ?_
    refine z_if_ne (tgt := 65) (n := 55) hC dX0_shoot_52 (by decide) rfl (fun c8 => ?_) (fun c8 => ?_)
    · refine z_vret hC hr hlocks () ?_ (by simp only [shQ, if_pos c4, if_neg c8, upd_id]) dX0_shoot_65 (by omega) (by omega)
      trivial
    · refine z_aload_n (n := 56) hC dX0_shoot_55 rfl 1 rfl rfl ?_
      refine gf_X0_27 (v := .ref (a 6)) (n := 59) hC 0 rfl rfl dX0_shoot_56 rfl ?_
      refine z_iload_n (n := 60) hC dX0_shoot_59 rfl 2 rfl rfl ?_
      refine z_dup2 (n := 61) hC dX0_shoot_60 rfl rfl rfl ?_
      refine z_iald (v := mi g) (n := 62) hC 6 0 g rfl rfl rfl (by omega) (by decide) dX0_shoot_61 rfl rfl ?_
      refine z_iconst (v := nI 1) (n := 63) hC dX0_shoot_62 (by decide) rfl ?_
      refine z_iadd (v := (mi g) + (nI 1)) (n := 64) hC dX0_shoot_63 rfl rfl ?_
      refine z_iast (ws' := wS a cI cZ sw st (upd fa g ((fa g) + (nI 1))) (upd sc g ((sc g) + (ouF (sw g) (st g) (fa g) am))) (upd fi g ((fi g) + (nI 1))) (upd mi g ((mi g) + (nI 1))) lf hi n) (n := 65) hC 6 0 g rfl rfl rfl (by omega) (by decide) dX0_shoot_64 rfl rfl rfl ?_
      refine z_vret hC hr hlocks () ?_ (by simp only [shQ, if_pos c4, if_pos c8, upd_id]) dX0_shoot_65 (by omega) (by omega)
      trivial

set_option maxRecDepth 100000 in
set_option maxHeartbeats 4000000 in
/-- one gun through k turns -/
theorem k_X0_playAlone (l : Launch) (G : va_G) (cI cZ cJ : ClassId) (a : Nat → Nat) (sw : Nat → Int32) (st : Nat → Int32) (fa : Nat → Int32) (sc : Nat → Int32) (fi : Nat → Int32) (mi : Nat → Int32) (lf : Nat → Bool) (hi : Nat → Bool) (n : Nat) (ta : Nat → Nat) (b : Nat → Int32) (r : Nat → Int32) (g : Nat) (T : Nat) (k : Nat) (hg : g < 6) (hT : T + k < 2 ^ 30) : MV (Unit) l yX0_playAlone cX0_playAlone 7 4 87 G (tY cI cZ cJ) [.ref (a 0), .ref (ta 0), .int (nI g), .int (nI T), .int (nI k)] ((wS a cI cZ sw st fa sc fi mi lf hi n) ++ (wT ta cI b r)) (fun _ => True) (fun _ => (wS a cI cZ sw st (upd fa g (ruQ (sw g) (st g) b r T g (sc g, fi g, mi g, fa g) k).2.2.2) (upd sc g (ruQ (sw g) (st g) b r T g (sc g, fi g, mi g, fa g) k).1) (upd fi g (ruQ (sw g) (st g) b r T g (sc g, fi g, mi g, fa g) k).2.1) (upd mi g (ruQ (sw g) (st g) b r T g (sc g, fi g, mi g, fa g) k).2.2.1) lf hi n) ++ (wT ta cI b r)) 0 0 := by
  refine MV_of (by decide) (Nat.le_of_ble_eq_true rfl) [(0, .ref (a 0)), (1, .ref (ta 0)), (2, .int (nI g)), (3, .int (nI T)), (4, .int (nI k))] rfl ?_
  intro p e s m below meth c hC hr hlocks hname
  have hC : Cx p s m _ c cX0_playAlone 7 RX0 G (tY cI cZ cJ) _ := hC
  refine z_iconst (v := nI 0) (n := 1) hC dX0_playAlone_0 (by decide) rfl ?_
  refine z_istore (lv' := [(5, .int (nI 0)), (0, .ref (a 0)), (1, .ref (ta 0)), (2, .int (nI g)), (3, .int (nI T)), (4, .int (nI k))]) (n := 3) hC dX0_playAlone_1 (by decide) rfl rfl ?_
  refine z_lv [1, 2, 3, 4, 5, 0] (lv' := [(0, .ref (a 0)), (1, .ref (ta 0)), (2, .int (nI g)), (3, .int (nI T)), (4, .int (nI k)), (5, .int (nI 0))]) rfl ?_
  refine z_weq (ws' := (wS a cI cZ sw st (upd fa g (ruQ (sw g) (st g) b r T g (sc g, fi g, mi g, fa g) 0).2.2.2) (upd sc g (ruQ (sw g) (st g) b r T g (sc g, fi g, mi g, fa g) 0).1) (upd fi g (ruQ (sw g) (st g) b r T g (sc g, fi g, mi g, fa g) 0).2.1) (upd mi g (ruQ (sw g) (st g) b r T g (sc g, fi g, mi g, fa g) 0).2.2.1) lf hi n) ++ (wT ta cI b r)) (by simp only [ruQ, upd_id]) ?_
  refine z_loop k 0 (fun i => (wS a cI cZ sw st (upd fa g (ruQ (sw g) (st g) b r T g (sc g, fi g, mi g, fa g) i).2.2.2) (upd sc g (ruQ (sw g) (st g) b r T g (sc g, fi g, mi g, fa g) i).1) (upd fi g (ruQ (sw g) (st g) b r T g (sc g, fi g, mi g, fa g) i).2.1) (upd mi g (ruQ (sw g) (st g) b r T g (sc g, fi g, mi g, fa g) i).2.2.1) lf hi n) ++ (wT ta cI b r)) (fun i => [(0, .ref (a 0)), (1, .ref (ta 0)), (2, .int (nI g)), (3, .int (nI T)), (4, .int (nI k)), (5, .int (nI i))]) (by omega) rfl rfl (fun i hi0 hi1 ih => ?_)
  refine z_iload (n := 5) hC dX0_playAlone_3 5 rfl rfl ?_
  refine z_iload (n := 7) hC dX0_playAlone_5 4 rfl rfl ?_
  refine z_icmp_ge_n (tgt := 61) (n := 10) hC i k rfl rfl (by omega) (by omega) dX0_playAlone_7 (by decide) rfl (fun c1 => ?_) (fun c1 => ?_)
  · obtain rfl : k = i := by omega
    refine z_vret hC hr hlocks () ?_ rfl dX0_playAlone_61 (by omega) (by omega)
    trivial
  · refine z_iload_n (n := 11) hC dX0_playAlone_10 rfl 3 rfl rfl ?_
    refine z_iload (n := 13) hC dX0_playAlone_11 5 rfl rfl ?_
    refine z_iadd (v := nI (T + i)) (n := 14) hC dX0_playAlone_13 (nI_add T i) rfl ?_
    refine z_istore (lv' := [(6, .int (nI (T + i))), (0, .ref (a 0)), (1, .ref (ta 0)), (2, .int (nI g)), (3, .int (nI T)), (4, .int (nI k)), (5, .int (nI i))]) (n := 16) hC dX0_playAlone_14 (by decide) rfl rfl ?_
    refine z_aload_n (n := 17) hC dX0_playAlone_16 rfl 1 rfl rfl ?_
    refine z_iload_n (n := 18) hC dX0_playAlone_17 rfl 3 rfl rfl ?_
    refine z_aload_n (n := 19) hC dX0_playAlone_18 rfl 2 rfl rfl ?_
    refine z_iload (n := 21) hC dX0_playAlone_19 0 rfl rfl ?_
    refine z_iload_n (n := 22) hC dX0_playAlone_21 rfl 3 rfl rfl ?_
    refine z_calli (R := { frames := 4, cells := 0, slots := 0, locals := 87 }) (cells := 0) (slots := 0) (ws := (wS a cI cZ sw st (upd fa g (ruQ (sw g) (st g) b r T g (sc g, fi g, mi g, fa g) i).2.2.2) (upd sc g (ruQ (sw g) (st g) b r T g (sc g, fi g, mi g, fa g) i).1) (upd fi g (ruQ (sw g) (st g) b r T g (sc g, fi g, mi g, fa g) i).2.1) (upd mi g (ruQ (sw g) (st g) b r T g (sc g, fi g, mi g, fa g) i).2.2.1) lf hi n) ++ (wT ta cI b r)) (n := 25) (As := [.int (nI (T + i)), .int (nI g)]) (rest := [.int (nI g), .ref (a 0)]) hC (k_X1_amountIn l G cI cZ cJ ta b r (T + i) g (by omega) (by omega)) kg_X0_48 kd_yX1_amountIn dX0_playAlone_22 ⟨Nat.le_of_ble_eq_true rfl, Nat.le_of_ble_eq_true rfl⟩ 0 rfl rfl rfl [9, 10, 11] rfl (by decide) rfl (Nat.le_of_ble_eq_true rfl) ⟨Nat.le_of_ble_eq_true rfl, Nat.le_of_ble_eq_true rfl⟩ (ws2 := fun u2 => (wS a cI cZ sw st (upd fa g (ruQ (sw g) (st g) b r T g (sc g, fi g, mi g, fa g) i).2.2.2) (upd sc g (ruQ (sw g) (st g) b r T g (sc g, fi g, mi g, fa g) i).1) (upd fi g (ruQ (sw g) (st g) b r T g (sc g, fi g, mi g, fa g) i).2.1) (upd mi g (ruQ (sw g) (st g) b r T g (sc g, fi g, mi g, fa g) i).2.2.1) lf hi n) ++ (wT ta cI b r)) [0, 1, 2, 3, 4, 5, 6, 7, 8] (fun _ => rfl) (wS a cI cZ sw st (upd fa g (ruQ (sw g) (st g) b r T g (sc g, fi g, mi g, fa g) i).2.2.2) (upd sc g (ruQ (sw g) (st g) b r T g (sc g, fi g, mi g, fa g) i).1) (upd fi g (ruQ (sw g) (st g) b r T g (sc g, fi g, mi g, fa g) i).2.1) (upd mi g (ruQ (sw g) (st g) b r T g (sc g, fi g, mi g, fa g) i).2.2.1) lf hi n) (fun _ => rfl) rfl (fun _ => rfl) [ta 0, ta 1, ta 2] (fun _ => rfl) rfl rfl rfl (fun r3 u2 h4 => ?_)
    subst h4
    refine z_callv (R := { frames := 4, cells := 0, slots := 0, locals := 87 }) (cells := 0) (slots := 0) (ws := (wS a cI cZ sw st (upd fa g (ruQ (sw g) (st g) b r T g (sc g, fi g, mi g, fa g) i).2.2.2) (upd sc g (ruQ (sw g) (st g) b r T g (sc g, fi g, mi g, fa g) i).1) (upd fi g (ruQ (sw g) (st g) b r T g (sc g, fi g, mi g, fa g) i).2.1) (upd mi g (ruQ (sw g) (st g) b r T g (sc g, fi g, mi g, fa g) i).2.2.1) lf hi n) ++ (wT ta cI b r)) (n := 28) (As := [.int (nI g), .int (amF b r (T + i) g)]) (rest := []) hC (k_X0_shoot l G cI cZ cJ a sw st (upd fa g (ruQ (sw g) (st g) b r T g (sc g, fi g, mi g, fa g) i).2.2.2) (upd sc g (ruQ (sw g) (st g) b r T g (sc g, fi g, mi g, fa g) i).1) (upd fi g (ruQ (sw g) (st g) b r T g (sc g, fi g, mi g, fa g) i).2.1) (upd mi g (ruQ (sw g) (st g) b r T g (sc g, fi g, mi g, fa g) i).2.2.1) lf hi n g (amF b r (T + i) g) (by omega)) kg_X0_53 kd_yX0_shoot dX0_playAlone_25 ⟨Nat.le_of_ble_eq_true rfl, Nat.le_of_ble_eq_true rfl⟩ 0 rfl rfl rfl [0, 1, 2, 3, 4, 5, 6, 7, 8] rfl (by decide) rfl (Nat.le_of_ble_eq_true rfl) ⟨Nat.le_of_ble_eq_true rfl, Nat.le_of_ble_eq_true rfl⟩ (ws2 := fun u5 => (wS a cI cZ sw st (upd (upd fa g (ruQ (sw g) (st g) b r T g (sc g, fi g, mi g, fa g) i).2.2.2) g (shQ (ouF (sw g) (st g) ((upd fa g (ruQ (sw g) (st g) b r T g (sc g, fi g, mi g, fa g) i).2.2.2) g) (amF b r (T + i) g)) ((upd sc g (ruQ (sw g) (st g) b r T g (sc g, fi g, mi g, fa g) i).1) g, (upd fi g (ruQ (sw g) (st g) b r T g (sc g, fi g, mi g, fa g) i).2.1) g, (upd mi g (ruQ (sw g) (st g) b r T g (sc g, fi g, mi g, fa g) i).2.2.1) g, (upd fa g (ruQ (sw g) (st g) b r T g (sc g, fi g, mi g, fa g) i).2.2.2) g)).2.2.2) (upd (upd sc g (ruQ (sw g) (st g) b r T g (sc g, fi g, mi g, fa g) i).1) g (shQ (ouF (sw g) (st g) ((upd fa g (ruQ (sw g) (st g) b r T g (sc g, fi g, mi g, fa g) i).2.2.2) g) (amF b r (T + i) g)) ((upd sc g (ruQ (sw g) (st g) b r T g (sc g, fi g, mi g, fa g) i).1) g, (upd fi g (ruQ (sw g) (st g) b r T g (sc g, fi g, mi g, fa g) i).2.1) g, (upd mi g (ruQ (sw g) (st g) b r T g (sc g, fi g, mi g, fa g) i).2.2.1) g, (upd fa g (ruQ (sw g) (st g) b r T g (sc g, fi g, mi g, fa g) i).2.2.2) g)).1) (upd (upd fi g (ruQ (sw g) (st g) b r T g (sc g, fi g, mi g, fa g) i).2.1) g (shQ (ouF (sw g) (st g) ((upd fa g (ruQ (sw g) (st g) b r T g (sc g, fi g, mi g, fa g) i).2.2.2) g) (amF b r (T + i) g)) ((upd sc g (ruQ (sw g) (st g) b r T g (sc g, fi g, mi g, fa g) i).1) g, (upd fi g (ruQ (sw g) (st g) b r T g (sc g, fi g, mi g, fa g) i).2.1) g, (upd mi g (ruQ (sw g) (st g) b r T g (sc g, fi g, mi g, fa g) i).2.2.1) g, (upd fa g (ruQ (sw g) (st g) b r T g (sc g, fi g, mi g, fa g) i).2.2.2) g)).2.1) (upd (upd mi g (ruQ (sw g) (st g) b r T g (sc g, fi g, mi g, fa g) i).2.2.1) g (shQ (ouF (sw g) (st g) ((upd fa g (ruQ (sw g) (st g) b r T g (sc g, fi g, mi g, fa g) i).2.2.2) g) (amF b r (T + i) g)) ((upd sc g (ruQ (sw g) (st g) b r T g (sc g, fi g, mi g, fa g) i).1) g, (upd fi g (ruQ (sw g) (st g) b r T g (sc g, fi g, mi g, fa g) i).2.1) g, (upd mi g (ruQ (sw g) (st g) b r T g (sc g, fi g, mi g, fa g) i).2.2.1) g, (upd fa g (ruQ (sw g) (st g) b r T g (sc g, fi g, mi g, fa g) i).2.2.2) g)).2.2.1) lf hi n) ++ (wT ta cI b r)) [9, 10, 11] (fun _ => rfl) (wT ta cI b r) (fun _ => rfl) rfl (fun _ => rfl) [a 0, a 1, a 2, a 3, a 4, a 5, a 6, a 7, a 8] (fun _ => rfl) rfl rfl rfl (fun u5 h7 => ?_)
    refine z_weq (ws' := (wS a cI cZ sw st (upd fa g (shQ (ouF (sw g) (st g) (ruQ (sw g) (st g) b r T g (sc g, fi g, mi g, fa g) i).2.2.2 (amF b r (T + i) g)) (ruQ (sw g) (st g) b r T g (sc g, fi g, mi g, fa g) i)).2.2.2) (upd sc g (shQ (ouF (sw g) (st g) (ruQ (sw g) (st g) b r T g (sc g, fi g, mi g, fa g) i).2.2.2 (amF b r (T + i) g)) (ruQ (sw g) (st g) b r T g (sc g, fi g, mi g, fa g) i)).1) (upd fi g (shQ (ouF (sw g) (st g) (ruQ (sw g) (st g) b r T g (sc g, fi g, mi g, fa g) i).2.2.2 (amF b r (T + i) g)) (ruQ (sw g) (st g) b r T g (sc g, fi g, mi g, fa g) i)).2.1) (upd mi g (shQ (ouF (sw g) (st g) (ruQ (sw g) (st g) b r T g (sc g, fi g, mi g, fa g) i).2.2.2 (amF b r (T + i) g)) (ruQ (sw g) (st g) b r T g (sc g, fi g, mi g, fa g) i)).2.2.1) lf hi n) ++ (wT ta cI b r)) (by simp only [upd_upd, pk_us]) ?_
    refine z_iload (n := 30) hC dX0_playAlone_28 0 rfl rfl ?_
    refine z_callsiN (R := { frames := 4, cells := 0, slots := 0, locals := 87 }) (cells := 0) (slots := 0) (ws := (wS a cI cZ sw st (upd fa g (shQ (ouF (sw g) (st g) (ruQ (sw g) (st g) b r T g (sc g, fi g, mi g, fa g) i).2.2.2 (amF b r (T + i) g)) (ruQ (sw g) (st g) b r T g (sc g, fi g, mi g, fa g) i)).2.2.2) (upd sc g (shQ (ouF (sw g) (st g) (ruQ (sw g) (st g) b r T g (sc g, fi g, mi g, fa g) i).2.2.2 (amF b r (T + i) g)) (ruQ (sw g) (st g) b r T g (sc g, fi g, mi g, fa g) i)).1) (upd fi g (shQ (ouF (sw g) (st g) (ruQ (sw g) (st g) b r T g (sc g, fi g, mi g, fa g) i).2.2.2 (amF b r (T + i) g)) (ruQ (sw g) (st g) b r T g (sc g, fi g, mi g, fa g) i)).2.1) (upd mi g (shQ (ouF (sw g) (st g) (ruQ (sw g) (st g) b r T g (sc g, fi g, mi g, fa g) i).2.2.2 (amF b r (T + i) g)) (ruQ (sw g) (st g) b r T g (sc g, fi g, mi g, fa g) i)).2.2.1) lf hi n) ++ (wT ta cI b r)) (n := 33) (As := [.int (nI (T + i))]) (rest := []) hC (k_X2_clayIn l G cI cZ cJ (T + i) (by omega)) kg_X0_57 (by simp [zNW]) q90 q49 kd_yX2_clayIn dX0_playAlone_30 ⟨Nat.le_of_ble_eq_true rfl, Nat.le_of_ble_eq_true rfl⟩ [] rfl (by decide) rfl (Nat.le_of_ble_eq_true rfl) ⟨Nat.le_of_ble_eq_true rfl, Nat.le_of_ble_eq_true rfl⟩ (ws2 := fun u8 => (wS a cI cZ sw st (upd fa g (shQ (ouF (sw g) (st g) (ruQ (sw g) (st g) b r T g (sc g, fi g, mi g, fa g) i).2.2.2 (amF b r (T + i) g)) (ruQ (sw g) (st g) b r T g (sc g, fi g, mi g, fa g) i)).2.2.2) (upd sc g (shQ (ouF (sw g) (st g) (ruQ (sw g) (st g) b r T g (sc g, fi g, mi g, fa g) i).2.2.2 (amF b r (T + i) g)) (ruQ (sw g) (st g) b r T g (sc g, fi g, mi g, fa g) i)).1) (upd fi g (shQ (ouF (sw g) (st g) (ruQ (sw g) (st g) b r T g (sc g, fi g, mi g, fa g) i).2.2.2 (amF b r (T + i) g)) (ruQ (sw g) (st g) b r T g (sc g, fi g, mi g, fa g) i)).2.1) (upd mi g (shQ (ouF (sw g) (st g) (ruQ (sw g) (st g) b r T g (sc g, fi g, mi g, fa g) i).2.2.2 (amF b r (T + i) g)) (ruQ (sw g) (st g) b r T g (sc g, fi g, mi g, fa g) i)).2.2.1) lf hi n) ++ (wT ta cI b r)) [0, 1, 2, 3, 4, 5, 6, 7, 8, 9, 10, 11] (fun _ => rfl) ((wS a cI cZ sw st (upd fa g (shQ (ouF (sw g) (st g) (ruQ (sw g) (st g) b r T g (sc g, fi g, mi g, fa g) i).2.2.2 (amF b r (T + i) g)) (ruQ (sw g) (st g) b r T g (sc g, fi g, mi g, fa g) i)).2.2.2) (upd sc g (shQ (ouF (sw g) (st g) (ruQ (sw g) (st g) b r T g (sc g, fi g, mi g, fa g) i).2.2.2 (amF b r (T + i) g)) (ruQ (sw g) (st g) b r T g (sc g, fi g, mi g, fa g) i)).1) (upd fi g (shQ (ouF (sw g) (st g) (ruQ (sw g) (st g) b r T g (sc g, fi g, mi g, fa g) i).2.2.2 (amF b r (T + i) g)) (ruQ (sw g) (st g) b r T g (sc g, fi g, mi g, fa g) i)).2.1) (upd mi g (shQ (ouF (sw g) (st g) (ruQ (sw g) (st g) b r T g (sc g, fi g, mi g, fa g) i).2.2.2 (amF b r (T + i) g)) (ruQ (sw g) (st g) b r T g (sc g, fi g, mi g, fa g) i)).2.2.1) lf hi n) ++ (wT ta cI b r)) (fun _ => rfl) rfl (fun _ => rfl) [] (fun _ => rfl) rfl rfl rfl (fun r9 u8 h10 => ?_)
    subst h10
    refine z_iconst (v := nI 4) (n := 34) hC dX0_playAlone_33 (by decide) rfl ?_
    refine z_icmp_ne_n (tgt := 55) (n := 37) hC ((T + i) % 5) 4 rfl rfl (by omega) (by omega) dX0_playAlone_34 (by decide) rfl (fun c11 => ?_) (fun c11 => ?_)
    · refine z_iinc (k0 := 6) (v := nI (i + 1)) (lv' := [(5, .int (nI (i + 1))), (6, .int (nI (T + i))), (0, .ref (a 0)), (1, .ref (ta 0)), (2, .int (nI g)), (3, .int (nI T)), (4, .int (nI k))]) (n := 58) hC dX0_playAlone_55 rfl (nI_add i 1) (by decide) rfl rfl ?_
      refine z_goto (n := 3) hC dX0_playAlone_58 (by decide) ?_
      refine z_lv [2, 3, 4, 5, 6, 0] (lv' := [(0, .ref (a 0)), (1, .ref (ta 0)), (2, .int (nI g)), (3, .int (nI T)), (4, .int (nI k)), (5, .int (nI (i + 1)))]) rfl ?_
      refine z_weq (ws' := (wS a cI cZ sw st (upd fa g (ruQ (sw g) (st g) b r T g (sc g, fi g, mi g, fa g) (i + 1)).2.2.2) (upd sc g (ruQ (sw g) (st g) b r T g (sc g, fi g, mi g, fa g) (i + 1)).1) (upd fi g (ruQ (sw g) (st g) b r T g (sc g, fi g, mi g, fa g) (i + 1)).2.1) (upd mi g (ruQ (sw g) (st g) b r T g (sc g, fi g, mi g, fa g) (i + 1)).2.2.1) lf hi n) ++ (wT ta cI b r)) (by simp only [ruQ, tuQ, if_pos c1, if_neg c11]) ?_
      exact ih (i + 1) (by omega) (by omega)
    · refine z_aload_n (n := 38) hC dX0_playAlone_37 rfl 1 rfl rfl ?_
      refine gf_X0_18 (v := .ref (a 3)) (n := 41) hC 0 rfl rfl dX0_playAlone_38 rfl ?_
      refine z_iload_n (n := 42) hC dX0_playAlone_41 rfl 3 rfl rfl ?_
      refine z_iconst (v := nI 0) (n := 43) hC dX0_playAlone_42 (by decide) rfl ?_
      refine z_aload_n (n := 44) hC dX0_playAlone_43 rfl 1 rfl rfl ?_
      refine gf_X0_18 (v := .ref (a 3)) (n := 47) hC 0 rfl rfl dX0_playAlone_44 rfl ?_
      refine z_iload_n (n := 48) hC dX0_playAlone_47 rfl 3 rfl rfl ?_
      refine z_iald (v := (shQ (ouF (sw g) (st g) (ruQ (sw g) (st g) b r T g (sc g, fi g, mi g, fa g) i).2.2.2 (amF b r (T + i) g)) (ruQ (sw g) (st g) b r T g (sc g, fi g, mi g, fa g) i)).2.2.2) (n := 49) hC 3 0 g rfl rfl rfl (by omega) (by decide) dX0_playAlone_48 pk_us rfl ?_
      refine z_iconst (v := nI 3) (n := 50) hC dX0_playAlone_49 (by decide) rfl ?_
      refine z_isub (v := ((shQ (ouF (sw g) (st g) (ruQ (sw g) (st g) b r T g (sc g, fi g, mi g, fa g) i).2.2.2 (amF b r (T + i) g)) (ruQ (sw g) (st g) b r T g (sc g, fi g, mi g, fa g) i)).2.2.2) - (nI 3)) (n := 51) hC dX0_playAlone_50 rfl rfl ?_
      refine z_mmax (v := maxF (nI 0) (((shQ (ouF (sw g) (st g) (ruQ (sw g) (st g) b r T g (sc g, fi g, mi g, fa g) i).2.2.2 (amF b r (T + i) g)) (ruQ (sw g) (st g) b r T g (sc g, fi g, mi g, fa g) i)).2.2.2) - (nI 3))) (n := 54) hC q108 q420 q88 q422 (by decide) (Nat.le_of_ble_eq_true rfl) (by omega) (by omega) dX0_playAlone_51 rfl rfl ?_
      refine z_iast (ws' := (wS a cI cZ sw st (upd fa g (maxF (nI 0) (((shQ (ouF (sw g) (st g) (ruQ (sw g) (st g) b r T g (sc g, fi g, mi g, fa g) i).2.2.2 (amF b r (T + i) g)) (ruQ (sw g) (st g) b r T g (sc g, fi g, mi g, fa g) i)).2.2.2) - (nI 3)))) (upd sc g (shQ (ouF (sw g) (st g) (ruQ (sw g) (st g) b r T g (sc g, fi g, mi g, fa g) i).2.2.2 (amF b r (T + i) g)) (ruQ (sw g) (st g) b r T g (sc g, fi g, mi g, fa g) i)).1) (upd fi g (shQ (ouF (sw g) (st g) (ruQ (sw g) (st g) b r T g (sc g, fi g, mi g, fa g) i).2.2.2 (amF b r (T + i) g)) (ruQ (sw g) (st g) b r T g (sc g, fi g, mi g, fa g) i)).2.1) (upd mi g (shQ (ouF (sw g) (st g) (ruQ (sw g) (st g) b r T g (sc g, fi g, mi g, fa g) i).2.2.2 (amF b r (T + i) g)) (ruQ (sw g) (st g) b r T g (sc g, fi g, mi g, fa g) i)).2.2.1) lf hi n) ++ (wT ta cI b r)) (n := 55) hC 3 0 g rfl rfl rfl (by omega) (by decide) dX0_playAlone_54 upd_upd rfl rfl ?_
      refine z_iinc (k0 := 6) (v := nI (i + 1)) (lv' := [(5, .int (nI (i + 1))), (6, .int (nI (T + i))), (0, .ref (a 0)), (1, .ref (ta 0)), (2, .int (nI g)), (3, .int (nI T)), (4, .int (nI k))]) (n := 58) hC dX0_playAlone_55 rfl (nI_add i 1) (by decide) rfl rfl ?_
      refine z_goto (n := 3) hC dX0_playAlone_58 (by decide) ?_
      refine z_lv [2, 3, 4, 5, 6, 0] (lv' := [(0, .ref (a 0)), (1, .ref (ta 0)), (2, .int (nI g)), (3, .int (nI T)), (4, .int (nI k)), (5, .int (nI (i + 1)))]) rfl ?_
      refine z_weq (ws' := (wS a cI cZ sw st (upd fa g (ruQ (sw g) (st g) b r T g (sc g, fi g, mi g, fa g) (i + 1)).2.2.2) (upd sc g (ruQ (sw g) (st g) b r T g (sc g, fi g, mi g, fa g) (i + 1)).1) (upd fi g (ruQ (sw g) (st g) b r T g (sc g, fi g, mi g, fa g) (i + 1)).2.1) (upd mi g (ruQ (sw g) (st g) b r T g (sc g, fi g, mi g, fa g) (i + 1)).2.2.1) lf hi n) ++ (wT ta cI b r)) (by simp only [ruQ, tuQ, if_pos c1, if_pos c11]) ?_
      exact ih (i + 1) (by omega) (by omega)

set_option maxRecDepth 100000 in
set_option maxHeartbeats 4000000 in
/-- all guns through k turns; how many misses -/
theorem k_X0_play (l : Launch) (G : va_G) (cI cZ cJ : ClassId) (a : Nat → Nat) (sw : Nat → Int32) (st : Nat → Int32) (fa : Nat → Int32) (sc : Nat → Int32) (fi : Nat → Int32) (mi : Nat → Int32) (lf : Nat → Bool) (hi : Nat → Bool) (n : Nat) (ta : Nat → Nat) (b : Nat → Int32) (r : Nat → Int32) (T : Nat) (k : Nat) (hn : n ≤ 6) (hT : T + k < 2 ^ 30) : MI (Unit) l yX0_play cX0_play 7 5 113 G (tY cI cZ cJ) [.ref (a 0), .ref (ta 0), .int (nI T), .int (nI k)] ((wS a cI cZ sw st fa sc fi mi lf hi n) ++ (wT ta cI b r)) (fun zr _ => zr = smF (fun zj => plM sw st b r sc fi mi fa T k zj - mi zj) n) (fun _ => (wS a cI cZ sw st (pwF fa (plA sw st b r sc fi mi fa T k) n) (pwF sc (plS sw st b r sc fi mi fa T k) n) (pwF fi (plF sw st b r sc fi mi fa T k) n) (pwF mi (plM sw st b r sc fi mi fa T k) n) lf hi n) ++ (wT ta cI b r)) 0 0 := by
  refine MI_of (by decide) (Nat.le_of_ble_eq_true rfl) [(0, .ref (a 0)), (1, .ref (ta 0)), (2, .int (nI T)), (3, .int (nI k))] rfl ?_
  intro p e s m below meth c hC hr hlocks hname
  have hC : Cx p s m _ c cX0_play 7 RX0 G (tY cI cZ cJ) _ := hC
  refine z_iconst (v := nI 0) (n := 1) hC dX0_play_0 (by decide) rfl ?_
  refine z_istore (lv' := [(4, .int (nI 0)), (0, .ref (a 0)), (1, .ref (ta 0)), (2, .int (nI T)), (3, .int (nI k))]) (n := 3) hC dX0_play_1 (by decide) rfl rfl ?_
  refine z_iconst (v := nI 0) (n := 4) hC dX0_play_3 (by decide) rfl ?_
  refine z_istore (lv' := [(5, .int (nI 0)), (4, .int (nI 0)), (0, .ref (a 0)), (1, .ref (ta 0)), (2, .int (nI T)), (3, .int (nI k))]) (n := 6) hC dX0_play_4 (by decide) rfl rfl ?_
  refine z_lv [2, 3, 4, 5, 1, 0] (lv' := [(0, .ref (a 0)), (1, .ref (ta 0)), (2, .int (nI T)), (3, .int (nI k)), (4, .int (smF (fun zj => plM sw st b r sc fi mi fa T k zj - mi zj) 0)), (5, .int (nI 0))]) rfl ?_
  refine z_weq (ws' := (wS a cI cZ sw st (pwF fa (plA sw st b r sc fi mi fa T k) 0) (pwF sc (plS sw st b r sc fi mi fa T k) 0) (pwF fi (plF sw st b r sc fi mi fa T k) 0) (pwF mi (plM sw st b r sc fi mi fa T k) 0) lf hi n) ++ (wT ta cI b r)) (by simp only [pwF_0]) ?_
  refine z_loop n 0 (fun i => (wS a cI cZ sw st (pwF fa (plA sw st b r sc fi mi fa T k) i) (pwF sc (plS sw st b r sc fi mi fa T k) i) (pwF fi (plF sw st b r sc fi mi fa T k) i) (pwF mi (plM sw st b r sc fi mi fa T k) i) lf hi n) ++ (wT ta cI b r)) (fun i => [(0, .ref (a 0)), (1, .ref (ta 0)), (2, .int (nI T)), (3, .int (nI k)), (4, .int (smF (fun zj => plM sw st b r sc fi mi fa T k zj - mi zj) i)), (5, .int (nI i))]) (by omega) rfl rfl (fun i hi0 hi1 ih => ?_)
  refine z_iload (n := 8) hC dX0_play_6 5 rfl rfl ?_
  refine z_aload_n (n := 9) hC dX0_play_8 rfl 0 rfl rfl ?_
  refine gf_X0_37 (v := .int (nI n)) (n := 12) hC 0 rfl rfl dX0_play_9 rfl ?_
  refine z_icmp_ge_n (tgt := 54) (n := 15) hC i n rfl rfl (by omega) (by omega) dX0_play_12 (by decide) rfl (fun c1 => ?_) (fun c1 => ?_)
  · obtain rfl : n = i := by omega
    refine z_iload (n := 56) hC dX0_play_54 4 rfl rfl ?_
    refine z_iret hC hr hlocks () ?_ rfl dX0_play_56 (by omega) (by omega)
    rfl
  · refine z_aload_n (n := 16) hC dX0_play_15 rfl 0 rfl rfl ?_
    refine gf_X0_27 (v := .ref (a 6)) (n := 19) hC 0 rfl rfl dX0_play_16 rfl ?_
    refine z_iload (n := 21) hC dX0_play_19 5 rfl rfl ?_
    refine z_iald (v := mi i) (n := 22) hC 6 0 i rfl rfl rfl (by omega) (by decide) dX0_play_21 (pwF_at (Nat.le_refl _)) rfl ?_
    refine z_istore (lv' := [(6, .int (mi i)), (0, .ref (a 0)), (1, .ref (ta 0)), (2, .int (nI T)), (3, .int (nI k)), (4, .int (smF (fun zj => plM sw st b r sc fi mi fa T k zj - mi zj) i)), (5, .int (nI i))]) (n := 24) hC dX0_play_22 (by decide) rfl rfl ?_
    refine z_aload_n (n := 25) hC dX0_play_24 rfl 1 rfl rfl ?_
    refine z_aload_n (n := 26) hC dX0_play_25 rfl 2 rfl rfl ?_
    refine z_iload (n := 28) hC dX0_play_26 6 rfl rfl ?_
    refine z_iload_n (n := 29) hC dX0_play_28 rfl 3 rfl rfl ?_
    refine z_iload_n (n := 30) hC dX0_play_29 rfl 4 rfl rfl ?_
    refine z_callv (R := { frames := 5, cells := 0, slots := 0, locals := 113 }) (cells := 0) (slots := 0) (ws := (wS a cI cZ sw st (pwF fa (plA sw st b r sc fi mi fa T k) i) (pwF sc (plS sw st b r sc fi mi fa T k) i) (pwF fi (plF sw st b r sc fi mi fa T k) i) (pwF mi (plM sw st b r sc fi mi fa T k) i) lf hi n) ++ (wT ta cI b r)) (n := 33) (As := [.ref (ta 0), .int (nI i), .int (nI T), .int (nI k)]) (rest := []) hC (k_X0_playAlone l G cI cZ cJ a sw st (pwF fa (plA sw st b r sc fi mi fa T k) i) (pwF sc (plS sw st b r sc fi mi fa T k) i) (pwF fi (plF sw st b r sc fi mi fa T k) i) (pwF mi (plM sw st b r sc fi mi fa T k) i) lf hi n ta b r i T k (by omega) (by omega)) kg_X0_66 kd_yX0_playAlone dX0_play_30 ⟨Nat.le_of_ble_eq_true rfl, Nat.le_of_ble_eq_true rfl⟩ 0 rfl rfl rfl [0, 1, 2, 3, 4, 5, 6, 7, 8, 9, 10, 11] rfl (by decide) rfl (Nat.le_of_ble_eq_true rfl) ⟨Nat.le_of_ble_eq_true rfl, Nat.le_of_ble_eq_true rfl⟩ (ws2 := fun u2 => (wS a cI cZ sw st (upd (pwF fa (plA sw st b r sc fi mi fa T k) i) i (ruQ (sw i) (st i) b r T i ((pwF sc (plS sw st b r sc fi mi fa T k) i) i, (pwF fi (plF sw st b r sc fi mi fa T k) i) i, (pwF mi (plM sw st b r sc fi mi fa T k) i) i, (pwF fa (plA sw st b r sc fi mi fa T k) i) i) k).2.2.2) (upd (pwF sc (plS sw st b r sc fi mi fa T k) i) i (ruQ (sw i) (st i) b r T i ((pwF sc (plS sw st b r sc fi mi fa T k) i) i, (pwF fi (plF sw st b r sc fi mi fa T k) i) i, (pwF mi (plM sw st b r sc fi mi fa T k) i) i, (pwF fa (plA sw st b r sc fi mi fa T k) i) i) k).1) (upd (pwF fi (plF sw st b r sc fi mi fa T k) i) i (ruQ (sw i) (st i) b r T i ((pwF sc (plS sw st b r sc fi mi fa T k) i) i, (pwF fi (plF sw st b r sc fi mi fa T k) i) i, (pwF mi (plM sw st b r sc fi mi fa T k) i) i, (pwF fa (plA sw st b r sc fi mi fa T k) i) i) k).2.1) (upd (pwF mi (plM sw st b r sc fi mi fa T k) i) i (ruQ (sw i) (st i) b r T i ((pwF sc (plS sw st b r sc fi mi fa T k) i) i, (pwF fi (plF sw st b r sc fi mi fa T k) i) i, (pwF mi (plM sw st b r sc fi mi fa T k) i) i, (pwF fa (plA sw st b r sc fi mi fa T k) i) i) k).2.2.1) lf hi n) ++ (wT ta cI b r)) [] (fun _ => rfl) ([]) (fun _ => rfl) rfl (fun _ => rfl) [a 0, a 1, a 2, a 3, a 4, a 5, a 6, a 7, a 8, ta 0, ta 1, ta 2] (fun _ => rfl) rfl rfl rfl (fun u2 h4 => ?_)
    refine z_weq (ws' := (wS a cI cZ sw st (pwF fa (plA sw st b r sc fi mi fa T k) (i + 1)) (pwF sc (plS sw st b r sc fi mi fa T k) (i + 1)) (pwF fi (plF sw st b r sc fi mi fa T k) (i + 1)) (pwF mi (plM sw st b r sc fi mi fa T k) (i + 1)) lf hi n) ++ (wT ta cI b r)) (by rw [← pwF_s (f := sc), ← pwF_s (f := fi), ← pwF_s (f := mi), ← pwF_s (f := fa)]; simp only [pwF_at (Nat.le_refl _)]; rfl) ?_
    refine z_iload (n := 35) hC dX0_play_33 5 rfl rfl ?_
    refine z_aload_n (n := 36) hC dX0_play_35 rfl 1 rfl rfl ?_
    refine gf_X0_27 (v := .ref (a 6)) (n := 39) hC 0 rfl rfl dX0_play_36 rfl ?_
    refine z_iload (n := 41) hC dX0_play_39 6 rfl rfl ?_
    refine z_iald (v := (plM sw st b r sc fi mi fa T k) i) (n := 42) hC 6 0 i rfl rfl rfl (by omega) (by decide) dX0_play_41 (pwF_lt (Nat.lt_succ_self _)) rfl ?_
    refine z_iload (n := 44) hC dX0_play_42 0 rfl rfl ?_
    refine z_isub (v := ((plM sw st b r sc fi mi fa T k) i) - (mi i)) (n := 45) hC dX0_play_44 rfl rfl ?_
    refine z_iadd (v := (smF (fun zj => plM sw st b r sc fi mi fa T k zj - mi zj) i) + (((plM sw st b r sc fi mi fa T k) i) - (mi i))) (n := 46) hC dX0_play_45 rfl rfl ?_
    refine z_istore (lv' := [(4, .int ((smF (fun zj => plM sw st b r sc fi mi fa T k zj - mi zj) i) + (((plM sw st b r sc fi mi fa T k) i) - (mi i)))), (6, .int (mi i)), (0, .ref (a 0)), (1, .ref (ta 0)), (2, .int (nI T)), (3, .int (nI k)), (5, .int (nI i))]) (n := 48) hC dX0_play_46 (by decide) rfl rfl ?_
    refine z_iinc (k0 := 6) (v := nI (i + 1)) (lv' := [(5, .int (nI (i + 1))), (4, .int ((smF (fun zj => plM sw st b r sc fi mi fa T k zj - mi zj) i) + (((plM sw st b r sc fi mi fa T k) i) - (mi i)))), (6, .int (mi i)), (0, .ref (a 0)), (1, .ref (ta 0)), (2, .int (nI T)), (3, .int (nI k))]) (n := 51) hC dX0_play_48 rfl (nI_add i 1) (by decide) rfl rfl ?_
    refine z_goto (n := 6) hC dX0_play_51 (by decide) ?_
    refine z_lv [3, 4, 5, 6, 1, 0] (lv' := [(0, .ref (a 0)), (1, .ref (ta 0)), (2, .int (nI T)), (3, .int (nI k)), (4, .int (smF (fun zj => plM sw st b r sc fi mi fa T k zj - mi zj) (i + 1))), (5, .int (nI (i + 1)))]) rfl ?_
    exact ih (i + 1) (by omega) (by omega)

set_option maxRecDepth 100000 in
set_option maxHeartbeats 4000000 in
/-- the first gun of those with the greatest score -/
theorem k_X0_leading (l : Launch) (G : va_G) (cI cZ cJ : ClassId) (a : Nat → Nat) (sw : Nat → Int32) (st : Nat → Int32) (fa : Nat → Int32) (sc : Nat → Int32) (fi : Nat → Int32) (mi : Nat → Int32) (lf : Nat → Bool) (hi : Nat → Bool) (n : Nat) (hn : n ≤ 6) : MI (Unit) l yX0_leading cX0_leading 3 0 0 G (tY cI cZ cJ) [.ref (a 0)] (wS a cI cZ sw st fa sc fi mi lf hi n) (fun zr _ => zr = ldF sc n) (fun _ => wS a cI cZ sw st fa sc fi mi lf hi n) 0 0 := by
  refine MI_of (by decide) (Nat.le_of_ble_eq_true rfl) [(0, .ref (a 0))] rfl ?_
  intro p e s m below meth c hC hr hlocks hname
  have hC : Cx p s m _ c cX0_leading 3 RX0 G (tY cI cZ cJ) _ := hC
  refine z_iconst (v := (-1)) (n := 1) hC dX0_leading_0 (by decide) rfl ?_
  refine z_istore_n (lv' := [(1, .int (-1)), (0, .ref (a 0))]) (n := 2) hC dX0_leading_1 rfl (by decide) rfl rfl ?_
  refine z_iconst (v := nI 0) (n := 3) hC dX0_leading_2 (by decide) rfl ?_
  refine z_istore_n (lv' := [(2, .int (nI 0)), (1, .int (-1)), (0, .ref (a 0))]) (n := 4) hC dX0_leading_3 rfl (by decide) rfl rfl ?_
  refine z_lv [2, 1, 0] (lv' := [(0, .ref (a 0)), (1, .int (-1)), (2, .int (nI 0))]) rfl ?_
  refine z_leq (lv' := [(0, .ref (a 0)), (1, .int (ldF sc 0)), (2, .int (nI 0))]) (by rw [ldF_0 rfl]) ?_
  refine z_loop n 0 (fun i => wS a cI cZ sw st fa sc fi mi lf hi n) (fun i => [(0, .ref (a 0)), (1, .int (ldF sc i)), (2, .int (nI i))]) (by omega) rfl rfl (fun i hi0 hi1 ih => ?_)
  refine z_iload_n (n := 5) hC dX0_leading_4 rfl 2 rfl rfl ?_
  refine z_aload_n (n := 6) hC dX0_leading_5 rfl 0 rfl rfl ?_
  refine gf_X0_37 (v := .int (nI n)) (n := 9) hC 0 rfl rfl dX0_leading_6 rfl ?_
  refine z_icmp_ge_n (tgt := 40) (n := 12) hC i n rfl rfl (by omega) (by omega) dX0_leading_9 (by decide) rfl (fun c1 => ?_) (fun c1 => ?_)
  · obtain rfl : n = i := by omega
    refine z_iload_n (n := 41) hC dX0_leading_40 rfl 1 rfl rfl ?_
    refine z_iret hC hr hlocks () ?_ rfl dX0_leading_41 (by omega) (by omega)
    rfl
  · rcases Nat.eq_zero_or_pos i with h0 | h0
    · refine z_leq (lv' := [(0, .ref (a 0)), (1, .int (-1)), (2, .int (nI i))]) (by rw [ldF_0 h0]) ?_
      refine z_iload_n (n := 13) hC dX0_leading_12 rfl 1 rfl rfl ?_
      refine z_iconst (v := (-1)) (n := 14) hC dX0_leading_13 (by decide) rfl ?_
      refine z_icmp_eq (tgt := 32) (n := 17) hC dX0_leading_14 (by decide) rfl (fun c2 => ?_) (fun c2 => absurd rfl c2)
      refine z_iload_n (n := 33) hC dX0_leading_32 rfl 2 rfl rfl ?_
      refine z_istore_n (lv' := [(1, .int (nI i)), (0, .ref (a 0)), (2, .int (nI i))]) (n := 34) hC dX0_leading_33 rfl (by decide) rfl rfl ?_
      refine z_iinc (k0 := 2) (v := nI (i + 1)) (lv' := [(2, .int (nI (i + 1))), (1, .int (nI i)), (0, .ref (a 0))]) (n := 37) hC dX0_leading_34 rfl (nI_add i 1) (by decide) rfl rfl ?_
      refine z_goto (n := 4) hC dX0_leading_37 (by decide) ?_
      refine z_lv [2, 1, 0] (lv' := [(0, .ref (a 0)), (1, .int (nI i)), (2, .int (nI (i + 1)))]) rfl ?_
      refine z_leq (lv' := [(0, .ref (a 0)), (1, .int (ldF sc (i + 1))), (2, .int (nI (i + 1)))]) (by rw [ldF_1 h0]) ?_
      exact ih (i + 1) (by omega) (by omega)
    · have hle := leF_le sc (i - 1)
      refine z_leq (lv' := [(0, .ref (a 0)), (1, .int (nI (leF sc (i - 1)))), (2, .int (nI i))]) (by rw [ldF_pos h0]) ?_
      refine z_iload_n (n := 13) hC dX0_leading_12 rfl 1 rfl rfl ?_
      refine z_iconst (v := (-1)) (n := 14) hC dX0_leading_13 (by decide) rfl ?_
      refine z_icmp_eq (tgt := 32) (n := 17) hC dX0_leading_14 (by decide) rfl (fun c3 => absurd c3 (nI_m1 (by omega))) (fun c3 => ?_)
      refine z_aload_n (n := 18) hC dX0_leading_17 rfl 0 rfl rfl ?_
      refine gf_X0_21 (v := .ref (a 4)) (n := 21) hC 0 rfl rfl dX0_leading_18 rfl ?_
      refine z_iload_n (n := 22) hC dX0_leading_21 rfl 2 rfl rfl ?_
      refine z_iald (v := sc i) (n := 23) hC 4 0 i rfl rfl rfl (by omega) (by decide) dX0_leading_22 rfl rfl ?_
      refine z_aload_n (n := 24) hC dX0_leading_23 rfl 0 rfl rfl ?_
      refine gf_X0_21 (v := .ref (a 4)) (n := 27) hC 0 rfl rfl dX0_leading_24 rfl ?_
      refine z_iload_n (n := 28) hC dX0_leading_27 rfl 1 rfl rfl ?_
      refine z_iald (v := sc (leF sc (i - 1))) (n := 29) hC 4 0 (leF sc (i - 1)) rfl rfl rfl (by omega) (by decide) dX0_leading_28 rfl rfl ?_
      refine z_icmp_le (tgt := 34) (n := 32) hC dX0_leading_29 (by decide) rfl (fun c4 => ?_) (fun c4 => ?_)
      · refine z_iinc (k0 := 2) (v := nI (i + 1)) (lv' := [(2, .int (nI (i + 1))), (0, .ref (a 0)), (1, .int (nI (leF sc (i - 1))))]) (n := 37) hC dX0_leading_34 rfl (nI_add i 1) (by decide) rfl rfl ?_
        refine z_goto (n := 4) hC dX0_leading_37 (by decide) ?_
        refine z_lv [1, 2, 0] (lv' := [(0, .ref (a 0)), (1, .int (nI (leF sc (i - 1)))), (2, .int (nI (i + 1)))]) rfl ?_
        refine z_leq (lv' := [(0, .ref (a 0)), (1, .int (ldF sc (i + 1))), (2, .int (nI (i + 1)))]) (by rw [ldF_keep h0 c4]) ?_
        exact ih (i + 1) (by omega) (by omega)
      · refine z_iload_n (n := 33) hC dX0_leading_32 rfl 2 rfl rfl ?_
        refine z_istore_n (lv' := [(1, .int (nI i)), (0, .ref (a 0)), (2, .int (nI i))]) (n := 34) hC dX0_leading_33 rfl (by decide) rfl rfl ?_
        refine z_iinc (k0 := 2) (v := nI (i + 1)) (lv' := [(2, .int (nI (i + 1))), (1, .int (nI i)), (0, .ref (a 0))]) (n := 37) hC dX0_leading_34 rfl (nI_add i 1) (by decide) rfl rfl ?_
        refine z_goto (n := 4) hC dX0_leading_37 (by decide) ?_
        refine z_lv [2, 1, 0] (lv' := [(0, .ref (a 0)), (1, .int (nI i)), (2, .int (nI (i + 1)))]) rfl ?_
        refine z_leq (lv' := [(0, .ref (a 0)), (1, .int (ldF sc (i + 1))), (2, .int (nI (i + 1)))]) (by rw [ldF_take h0 c4]) ?_
        exact ih (i + 1) (by omega) (by omega)

set_option maxRecDepth 100000 in
set_option maxHeartbeats 4000000 in
/-- how many have the greatest score -/
theorem k_X0_countTied (l : Launch) (G : va_G) (cI cZ cJ : ClassId) (a : Nat → Nat) (sw : Nat → Int32) (st : Nat → Int32) (fa : Nat → Int32) (sc : Nat → Int32) (fi : Nat → Int32) (mi : Nat → Int32) (lf : Nat → Bool) (hi : Nat → Bool) (n : Nat) (hn : n ≤ 6) : MI (Unit) l yX0_countTied cX0_countTied 4 1 22 G (tY cI cZ cJ) [.ref (a 0)] (wS a cI cZ sw st fa sc fi mi lf hi n) (fun zr _ => zr = nI (ctF (fun zj => decide (sc zj = sc (leF sc (n - 1)))) n)) (fun _ => wS a cI cZ sw st fa sc fi mi lf hi n) 0 0 := by
  refine MI_of (by decide) (Nat.le_of_ble_eq_true rfl) [(0, .ref (a 0))] rfl ?_
  intro p e s m below meth c hC hr hlocks hname
  have hC : Cx p s m _ c cX0_countTied 4 RX0 G (tY cI cZ cJ) _ := hC
  refine z_aload_n (n := 1) hC dX0_countTied_0 rfl 0 rfl rfl ?_
  refine z_calli (R := { frames := 1, cells := 0, slots := 0, locals := 22 }) (cells := 0) (slots := 0) (ws := wS a cI cZ sw st fa sc fi mi lf hi n) (n := 4) (As := []) (rest := []) hC (k_X0_leading l G cI cZ cJ a sw st fa sc fi mi lf hi n (by omega)) kg_X0_70 kd_yX0_leading dX0_countTied_1 ⟨Nat.le_of_ble_eq_true rfl, Nat.le_of_ble_eq_true rfl⟩ 0 rfl rfl rfl [0, 1, 2, 3, 4, 5, 6, 7, 8] rfl (by decide) rfl (Nat.le_of_ble_eq_true rfl) ⟨Nat.le_of_ble_eq_true rfl, Nat.le_of_ble_eq_true rfl⟩ (ws2 := fun u1 => wS a cI cZ sw st fa sc fi mi lf hi n) [] (fun _ => rfl) ([]) (fun _ => rfl) rfl (fun _ => rfl) [a 0, a 1, a 2, a 3, a 4, a 5, a 6, a 7, a 8] (fun _ => rfl) rfl rfl rfl (fun r2 u1 h3 => ?_)
  subst h3
  refine z_istore_n (lv' := [(1, .int (ldF sc n)), (0, .ref (a 0))]) (n := 5) hC dX0_countTied_4 rfl (by decide) rfl rfl ?_
  refine z_iconst (v := nI 0) (n := 6) hC dX0_countTied_5 (by decide) rfl ?_
  refine z_istore_n (lv' := [(2, .int (nI 0)), (1, .int (ldF sc n)), (0, .ref (a 0))]) (n := 7) hC dX0_countTied_6 rfl (by decide) rfl rfl ?_
  refine z_iconst (v := nI 0) (n := 8) hC dX0_countTied_7 (by decide) rfl ?_
  refine z_istore_n (lv' := [(3, .int (nI 0)), (2, .int (nI 0)), (1, .int (ldF sc n)), (0, .ref (a 0))]) (n := 9) hC dX0_countTied_8 rfl (by decide) rfl rfl ?_
  refine z_lv [3, 2, 1, 0] (lv' := [(0, .ref (a 0)), (1, .int (ldF sc n)), (2, .int (nI (ctF (fun zj => decide (sc zj = sc (leF sc (n - 1)))) 0))), (3, .int (nI 0))]) rfl ?_
  refine z_loop n 0 (fun i => wS a cI cZ sw st fa sc fi mi lf hi n) (fun i => [(0, .ref (a 0)), (1, .int (ldF sc n)), (2, .int (nI (ctF (fun zj => decide (sc zj = sc (leF sc (n - 1)))) i))), (3, .int (nI i))]) (by omega) rfl rfl (fun i hi0 hi1 ih => ?_)
  have hct := ctF_le (fun zj => decide (sc zj = sc (leF sc (n - 1)))) i
  refine z_iload_n (n := 10) hC dX0_countTied_9 rfl 3 rfl rfl ?_
  refine z_aload_n (n := 11) hC dX0_countTied_10 rfl 0 rfl rfl ?_
  refine gf_X0_37 (v := .int (nI n)) (n := 14) hC 0 rfl rfl dX0_countTied_11 rfl ?_
  refine z_icmp_ge_n (tgt := 46) (n := 17) hC i n rfl rfl (by omega) (by omega) dX0_countTied_14 (by decide) rfl (fun c4 => ?_) (fun c4 => ?_)
  · obtain rfl : n = i := by omega
    refine z_iload_n (n := 47) hC dX0_countTied_46 rfl 2 rfl rfl ?_
    refine z_iret hC hr hlocks () ?_ rfl dX0_countTied_47 (by omega) (by omega)
    rfl
  · have h0 : 0 < n := by omega
    have hle := leF_le sc (n - 1)
    refine z_leq (lv' := [(0, .ref (a 0)), (1, .int (nI (leF sc (n - 1)))), (2, .int (nI (ctF (fun zj => decide (sc zj = sc (leF sc (n - 1)))) i))), (3, .int (nI i))]) (by rw [ldF_pos h0]) ?_
    refine z_iload_n (n := 18) hC dX0_countTied_17 rfl 1 rfl rfl ?_
    refine z_iconst (v := (-1)) (n := 19) hC dX0_countTied_18 (by decide) rfl ?_
    refine z_icmp_eq (tgt := 40) (n := 22) hC dX0_countTied_19 (by decide) rfl (fun c5 => absurd c5 (nI_m1 (by omega))) (fun c5 => ?_)
    refine z_aload_n (n := 23) hC dX0_countTied_22 rfl 0 rfl rfl ?_
    refine gf_X0_21 (v := .ref (a 4)) (n := 26) hC 0 rfl rfl dX0_countTied_23 rfl ?_
    refine z_iload_n (n := 27) hC dX0_countTied_26 rfl 3 rfl rfl ?_
    refine z_iald (v := sc i) (n := 28) hC 4 0 i rfl rfl rfl (by omega) (by decide) dX0_countTied_27 rfl rfl ?_
    refine z_aload_n (n := 29) hC dX0_countTied_28 rfl 0 rfl rfl ?_
    refine gf_X0_21 (v := .ref (a 4)) (n := 32) hC 0 rfl rfl dX0_countTied_29 rfl ?_
    refine z_iload_n (n := 33) hC dX0_countTied_32 rfl 1 rfl rfl ?_
    refine z_iald (v := sc (leF sc (n - 1))) (n := 34) hC 4 0 (leF sc (n - 1)) rfl rfl rfl (by omega) (by decide) dX0_countTied_33 rfl rfl ?_
    refine z_icmp_ne (tgt := 40) (n := 37) hC dX0_countTied_34 (by decide) rfl (fun c6 => ?_) (fun c6 => ?_)
    · refine z_iinc (k0 := 3) (v := nI (i + 1)) (lv' := [(3, .int (nI (i + 1))), (0, .ref (a 0)), (1, .int (nI (leF sc (n - 1)))), (2, .int (nI (ctF (fun zj => decide (sc zj = sc (leF sc (n - 1)))) i)))]) (n := 43) hC dX0_countTied_40 rfl (nI_add i 1) (by decide) rfl rfl ?_
      refine z_goto (n := 9) hC dX0_countTied_43 (by decide) ?_
      refine z_lv [1, 2, 3, 0] (lv' := [(0, .ref (a 0)), (1, .int (nI (leF sc (n - 1)))), (2, .int (nI (ctF (fun zj => decide (sc zj = sc (leF sc (n - 1)))) i))), (3, .int (nI (i + 1)))]) rfl ?_
      refine z_leq (lv' := [(0, .ref (a 0)), (1, .int (ldF sc n)), (2, .int (nI (ctF (fun zj => decide (sc zj = sc (leF sc (n - 1)))) (i + 1)))), (3, .int (nI (i + 1)))]) (by rw [ldF_pos h0]; simp only [ctF, decide_eq_true_eq, if_pos c4, if_neg c6, Nat.add_zero]) ?_
      exact ih (i + 1) (by omega) (by omega)
    · refine z_iinc (k0 := 2) (v := nI (ctF (fun zj => decide (sc zj = sc (leF sc (n - 1)))) i + 1)) (lv' := [(2, .int (nI (ctF (fun zj => decide (sc zj = sc (leF sc (n - 1)))) i + 1))), (0, .ref (a 0)), (1, .int (nI (leF sc (n - 1)))), (3, .int (nI i))]) (n := 40) hC dX0_countTied_37 rfl (nI_add (ctF (fun zj => decide (sc zj = sc (leF sc (n - 1)))) i) 1) (by decide) rfl rfl ?_
      refine z_iinc (k0 := 3) (v := nI (i + 1)) (lv' := [(3, .int (nI (i + 1))), (2, .int (nI (ctF (fun zj => decide (sc zj = sc (leF sc (n - 1)))) i + 1))), (0, .ref (a 0)), (1, .int (nI (leF sc (n - 1))))]) (n := 43) hC dX0_countTied_40 rfl (nI_add i 1) (by decide) rfl rfl ?_
      refine z_goto (n := 9) hC dX0_countTied_43 (by decide) ?_
      refine z_lv [2, 3, 1, 0] (lv' := [(0, .ref (a 0)), (1, .int (nI (leF sc (n - 1)))), (2, .int (nI (ctF (fun zj => decide (sc zj = sc (leF sc (n - 1)))) i + 1))), (3, .int (nI (i + 1)))]) rfl ?_
      refine z_leq (lv' := [(0, .ref (a 0)), (1, .int (ldF sc n)), (2, .int (nI (ctF (fun zj => decide (sc zj = sc (leF sc (n - 1)))) (i + 1)))), (3, .int (nI (i + 1)))]) (by rw [ldF_pos h0]; simp only [ctF, decide_eq_true_eq, if_pos c4, if_pos c6, Nat.add_zero]) ?_
      exact ih (i + 1) (by omega) (by omega)

set_option maxRecDepth 100000 in
set_option maxHeartbeats 4000000 in
theorem k_X0_countAbove (l : Launch) (G : va_G) (cI cZ cJ : ClassId) (a : Nat → Nat) (sw : Nat → Int32) (st : Nat → Int32) (fa : Nat → Int32) (sc : Nat → Int32) (fi : Nat → Int32) (mi : Nat → Int32) (lf : Nat → Bool) (hi : Nat → Bool) (n : Nat) (x : Int32) (hn : n ≤ 6) : MI (Unit) l yX0_countAbove cX0_countAbove 4 0 0 G (tY cI cZ cJ) [.ref (a 0), .int x] (wS a cI cZ sw st fa sc fi mi lf hi n) (fun zr _ => zr = nI (ctF (fun zj => decide (¬ sc zj ≤ x)) n)) (fun _ => wS a cI cZ sw st fa sc fi mi lf hi n) 0 0 := by
  refine MI_of (by decide) (Nat.le_of_ble_eq_true rfl) [(0, .ref (a 0)), (1, .int x)] rfl ?_
  intro p e s m below meth c hC hr hlocks hname
  have hC : Cx p s m _ c cX0_countAbove 4 RX0 G (tY cI cZ cJ) _ := hC
  refine z_iconst (v := nI 0) (n := 1) hC dX0_countAbove_0 (by decide) rfl ?_
  refine z_istore_n (lv' := [(2, .int (nI 0)), (0, .ref (a 0)), (1, .int x)]) (n := 2) hC dX0_countAbove_1 rfl (by decide) rfl rfl ?_
  refine z_iconst (v := nI 0) (n := 3) hC dX0_countAbove_2 (by decide) rfl ?_
  refine z_istore_n (lv' := [(3, .int (nI 0)), (2, .int (nI 0)), (0, .ref (a 0)), (1, .int x)]) (n := 4) hC dX0_countAbove_3 rfl (by decide) rfl rfl ?_
  refine z_lv [2, 3, 1, 0] (lv' := [(0, .ref (a 0)), (1, .int x), (2, .int (nI (ctF (fun zj => decide (¬ sc zj ≤ x)) 0))), (3, .int (nI 0))]) rfl ?_
  refine z_loop n 0 (fun i => wS a cI cZ sw st fa sc fi mi lf hi n) (fun i => [(0, .ref (a 0)), (1, .int x), (2, .int (nI (ctF (fun zj => decide (¬ sc zj ≤ x)) i))), (3, .int (nI i))]) (by omega) rfl rfl (fun i hi0 hi1 ih => ?_)
  refine z_iload_n (n := 5) hC dX0_countAbove_4 rfl 3 rfl rfl ?_
  refine z_aload_n (n := 6) hC dX0_countAbove_5 rfl 0 rfl rfl ?_
  refine gf_X0_37 (v := .int (nI n)) (n := 9) hC 0 rfl rfl dX0_countAbove_6 rfl ?_
  refine z_icmp_ge_n (tgt := 31) (n := 12) hC i n rfl rfl (by omega) (by omega) dX0_countAbove_9 (by decide) rfl (fun c1 => ?_) (fun c1 => ?_)
  · obtain rfl : n = i := by omega
    refine z_iload_n (n := 32) hC dX0_countAbove_31 rfl 2 rfl rfl ?_
    refine z_iret hC hr hlocks () ?_ rfl dX0_countAbove_32 (by omega) (by omega)
    rfl
  · refine z_aload_n (n := 13) hC dX0_countAbove_12 rfl 0 rfl rfl ?_
    refine gf_X0_21 (v := .ref (a 4)) (n := 16) hC 0 rfl rfl dX0_countAbove_13 rfl ?_
    refine z_iload_n (n := 17) hC dX0_countAbove_16 rfl 3 rfl rfl ?_
    refine z_iald (v := sc i) (n := 18) hC 4 0 i rfl rfl rfl (by omega) (by decide) dX0_countAbove_17 rfl rfl ?_
    refine z_iload_n (n := 19) hC dX0_countAbove_18 rfl 1 rfl rfl ?_
    refine z_icmp_le (tgt := 25) (n := 22) hC dX0_countAbove_19 (by decide) rfl (fun c2 => ?_) (fun c2 => ?_)
    · refine z_iinc (k0 := 3) (v := nI (i + 1)) (lv' := [(3, .int (nI (i + 1))), (0, .ref (a 0)), (1, .int x), (2, .int (nI (ctF (fun zj => decide (¬ sc zj ≤ x)) i)))]) (n := 28) hC dX0_countAbove_25 rfl (nI_add i 1) (by decide) rfl rfl ?_
      refine z_goto (n := 4) hC dX0_countAbove_28 (by decide) ?_
      refine z_lv [1, 2, 3, 0] (lv' := [(0, .ref (a 0)), (1, .int x), (2, .int (nI (ctF (fun zj => decide (¬ sc zj ≤ x)) i))), (3, .int (nI (i + 1)))]) rfl ?_
      refine z_leq (lv' := [(0, .ref (a 0)), (1, .int x), (2, .int (nI (ctF (fun zj => decide (¬ sc zj ≤ x)) (i + 1)))), (3, .int (nI (i + 1)))]) (by simp only [ctF, decide_eq_true_eq, ite_not, if_pos c1, if_pos c2, Nat.add_zero]) ?_
      exact ih (i + 1) (by omega) (by omega)
    · refine z_iinc (k0 := 2) (v := nI (ctF (fun zj => decide (¬ sc zj ≤ x)) i + 1)) (lv' := [(2, .int (nI (ctF (fun zj => decide (¬ sc zj ≤ x)) i + 1))), (0, .ref (a 0)), (1, .int x), (3, .int (nI i))]) (n := 25) hC dX0_countAbove_22 rfl (nI_add (ctF (fun zj => decide (¬ sc zj ≤ x)) i) 1) (by decide) rfl rfl ?_
      refine z_iinc (k0 := 3) (v := nI (i + 1)) (lv' := [(3, .int (nI (i + 1))), (2, .int (nI (ctF (fun zj => decide (¬ sc zj ≤ x)) i + 1))), (0, .ref (a 0)), (1, .int x)]) (n := 28) hC dX0_countAbove_25 rfl (nI_add i 1) (by decide) rfl rfl ?_
      refine z_goto (n := 4) hC dX0_countAbove_28 (by decide) ?_
      refine z_lv [2, 3, 1, 0] (lv' := [(0, .ref (a 0)), (1, .int x), (2, .int (nI (ctF (fun zj => decide (¬ sc zj ≤ x)) i + 1))), (3, .int (nI (i + 1)))]) rfl ?_
      refine z_leq (lv' := [(0, .ref (a 0)), (1, .int x), (2, .int (nI (ctF (fun zj => decide (¬ sc zj ≤ x)) (i + 1)))), (3, .int (nI (i + 1)))]) (by simp only [ctF, decide_eq_true_eq, ite_not, if_pos c1, if_neg c2, Nat.add_zero]) ?_
      exact ih (i + 1) (by omega) (by omega)

set_option maxRecDepth 100000 in
set_option maxHeartbeats 4000000 in
theorem k_X0_totalScore (l : Launch) (G : va_G) (cI cZ cJ : ClassId) (a : Nat → Nat) (sw : Nat → Int32) (st : Nat → Int32) (fa : Nat → Int32) (sc : Nat → Int32) (fi : Nat → Int32) (mi : Nat → Int32) (lf : Nat → Bool) (hi : Nat → Bool) (n : Nat) (hn : n ≤ 6) : MI (Unit) l yX0_totalScore cX0_totalScore 3 0 0 G (tY cI cZ cJ) [.ref (a 0)] (wS a cI cZ sw st fa sc fi mi lf hi n) (fun zr _ => zr = smF sc n) (fun _ => wS a cI cZ sw st fa sc fi mi lf hi n) 0 0 := by
  refine MI_of (by decide) (Nat.le_of_ble_eq_true rfl) [(0, .ref (a 0))] rfl ?_
  intro p e s m below meth c hC hr hlocks hname
  have hC : Cx p s m _ c cX0_totalScore 3 RX0 G (tY cI cZ cJ) _ := hC
  refine z_iconst (v := nI 0) (n := 1) hC dX0_totalScore_0 (by decide) rfl ?_
  refine z_istore_n (lv' := [(1, .int (nI 0)), (0, .ref (a 0))]) (n := 2) hC dX0_totalScore_1 rfl (by decide) rfl rfl ?_
  refine z_iconst (v := nI 0) (n := 3) hC dX0_totalScore_2 (by decide) rfl ?_
  refine z_istore_n (lv' := [(2, .int (nI 0)), (1, .int (nI 0)), (0, .ref (a 0))]) (n := 4) hC dX0_totalScore_3 rfl (by decide) rfl rfl ?_
  refine z_lv [2, 1, 0] (lv' := [(0, .ref (a 0)), (1, .int (smF sc 0)), (2, .int (nI 0))]) rfl ?_
  refine z_loop n 0 (fun i => wS a cI cZ sw st fa sc fi mi lf hi n) (fun i => [(0, .ref (a 0)), (1, .int (smF sc i)), (2, .int (nI i))]) (by omega) rfl rfl (fun i hi0 hi1 ih => ?_)
  refine z_iload_n (n := 5) hC dX0_totalScore_4 rfl 2 rfl rfl ?_
  refine z_aload_n (n := 6) hC dX0_totalScore_5 rfl 0 rfl rfl ?_
  refine gf_X0_37 (v := .int (nI n)) (n := 9) hC 0 rfl rfl dX0_totalScore_6 rfl ?_
  refine z_icmp_ge_n (tgt := 27) (n := 12) hC i n rfl rfl (by omega) (by omega) dX0_totalScore_9 (by decide) rfl (fun c1 => ?_) (fun c1 => ?_)
  · obtain rfl : n = i := by omega
    refine z_iload_n (n := 28) hC dX0_totalScore_27 rfl 1 rfl rfl ?_
    refine z_iret hC hr hlocks () ?_ rfl dX0_totalScore_28 (by omega) (by omega)
    rfl
  · refine z_iload_n (n := 13) hC dX0_totalScore_12 rfl 1 rfl rfl ?_
    refine z_aload_n (n := 14) hC dX0_totalScore_13 rfl 0 rfl rfl ?_
    refine gf_X0_21 (v := .ref (a 4)) (n := 17) hC 0 rfl rfl dX0_totalScore_14 rfl ?_
    refine z_iload_n (n := 18) hC dX0_totalScore_17 rfl 2 rfl rfl ?_
    refine z_iald (v := sc i) (n := 19) hC 4 0 i rfl rfl rfl (by omega) (by decide) dX0_totalScore_18 rfl rfl ?_
    refine z_iadd (v := (smF sc i) + (sc i)) (n := 20) hC dX0_totalScore_19 rfl rfl ?_
    refine z_istore_n (lv' := [(1, .int ((smF sc i) + (sc i))), (0, .ref (a 0)), (2, .int (nI i))]) (n := 21) hC dX0_totalScore_20 rfl (by decide) rfl rfl ?_
    refine z_iinc (k0 := 2) (v := nI (i + 1)) (lv' := [(2, .int (nI (i + 1))), (1, .int ((smF sc i) + (sc i))), (0, .ref (a 0))]) (n := 24) hC dX0_totalScore_21 rfl (nI_add i 1) (by decide) rfl rfl ?_
    refine z_goto (n := 4) hC dX0_totalScore_24 (by decide) ?_
    refine z_lv [2, 1, 0] (lv' := [(0, .ref (a 0)), (1, .int (smF sc (i + 1))), (2, .int (nI (i + 1)))]) rfl ?_
    exact ih (i + 1) (by omega) (by omega)
