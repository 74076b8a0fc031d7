set_option maxRecDepth 100000 in
set_option maxHeartbeats 4000000 in
theorem k_X3_amount (l : Launch) (G : va_G) (cI cZ cJ : ClassId) (x : Int32)  : MI (Unit) l yX3_amount cX3_amount 1 0 0 G (tY cI cZ cJ) [.int x] ([]) (fun zr _ => zr = absF x) (fun _ => []) 0 0 := by
  refine MI_of (by decide) (Nat.le_of_ble_eq_true rfl) [(0, .int x)] rfl ?_
  intro p e s m below meth c hC hr hlocks hname
  have hC : Cx p s m _ c cX3_amount 1 RX3 G (tY cI cZ cJ) _ := hC
  refine z_iload_n (n := 1) hC dX3_amount_0 rfl 0 rfl rfl ?_
  refine z_if_ge (tgt := 9) (n := 4) hC dX3_amount_1 (by decide) rfl (fun c1 => ?_) (fun c1 => ?_)
  · refine z_iload_n (n := 10) hC dX3_amount_9 rfl 0 rfl rfl ?_
    refine z_iret hC hr hlocks () ?_ rfl dX3_amount_10 (by omega) (by omega)
    exact abs_pos c1
  · refine z_iload_n (n := 5) hC dX3_amount_4 rfl 0 rfl rfl ?_
    refine z_ineg (v := -x) (n := 6) hC dX3_amount_5 rfl rfl ?_
    refine z_goto (n := 10) hC dX3_amount_6 (by decide) ?_
    refine z_iret hC hr hlocks () ?_ rfl dX3_amount_10 (by omega) (by omega)
    exact abs_neg c1

set_option maxRecDepth 100000 in
set_option maxHeartbeats 4000000 in
theorem k_X3_angle (l : Launch) (G : va_G) (cI cZ cJ : ClassId) (q : Nat) (tr : Nat) (go : Nat) (T : Nat) (ra : Nat → Nat) (b : Nat → Int32) (r : Nat → Int32) (s0 : Nat) (c0 : Nat) (hs : s0 < 5) (hc : c0 < 5) (hR5 : ∀ k, k < 5 → inN (r k) 45) : MI (Unit) l yX3_angle cX3_angle 4 0 0 G (tY cI cZ cJ) [.ref q, .int (nI s0), .int (nI c0)] ((wQ q tr go T) ++ (wF tr cJ 5 ra) ++ (wR ra cI b r)) (fun zr _ => zr = angF b r s0 c0) (fun _ => (wQ q tr go T) ++ (wF tr cJ 5 ra) ++ (wR ra cI b r)) 0 0 := by
  refine MI_of (by decide) (Nat.le_of_ble_eq_true rfl) [(0, .ref q), (1, .int (nI s0)), (2, .int (nI c0))] rfl ?_
  intro p e s m below meth c hC hr hlocks hname
  have hC : Cx p s m _ c cX3_angle 4 RX3 G (tY cI cZ cJ) _ := hC
  refine z_aload_n (n := 1) hC dX3_angle_0 rfl 0 rfl rfl ?_
  refine gy_X3_9 (v := .ref tr) (n := 4) hC (MW.l (MW.l (MW.at 0 rfl))) rfl dX3_angle_1 rfl ?_
  refine z_iload_n (n := 5) hC dX3_angle_4 rfl 1 rfl rfl ?_
  refine y_qald (v := ra s0) (n := 6) hC 2 s0 (MW.l (MW.r (MW.at 0 rfl))) rfl rfl (by omega) (by omega) (rfF_at (by omega)) dX3_angle_5 rfl ?_
  refine z_iconst (v := nI 1) (n := 7) hC dX3_angle_6 (by decide) rfl ?_
  refine y_iald (v := r s0) (n := 8) hC 0 1 (MW.r (MW.pool s0 (by omega))) rfl rfl (by decide) (by decide) dX3_angle_7 rfl rfl ?_
  refine z_iload_n (n := 9) hC dX3_angle_8 rfl 2 rfl rfl ?_
  refine z_iconst (v := nI 2) (n := 10) hC dX3_angle_9 (by decide) rfl ?_
  refine z_icmp_ge_n (tgt := 19) (n := 13) hC c0 2 rfl rfl (by omega) (by omega) dX3_angle_10 (by decide) rfl (fun c1 => ?_) (fun c1 => ?_)
  · refine z_iload_n (n := 20) hC dX3_angle_19 rfl 2 rfl rfl ?_
    refine z_iconst (v := nI 2) (n := 21) hC dX3_angle_20 (by decide) rfl ?_
    refine z_isub (v := nI c0 - nI 2) (n := 22) hC dX3_angle_21 rfl rfl ?_
    refine z_imul (v := (r s0) * (nI c0 - nI 2)) (n := 23) hC dX3_angle_22 rfl rfl ?_
    refine z_iconst (v := nI 2) (n := 24) hC dX3_angle_23 (by decide) rfl ?_
    refine z_idiv (v := ((r s0) * (nI c0 - nI 2)) / (nI 2)) (n := 25) hC dX3_angle_24 (by decide) rfl rfl ?_
    refine z_istore_n (lv' := [(3, .int (((r s0) * (nI c0 - nI 2)) / (nI 2))), (0, .ref q), (1, .int (nI s0)), (2, .int (nI c0))]) (n := 26) hC dX3_angle_25 rfl (by decide) rfl rfl ?_
    refine z_iload_n (n := 27) hC dX3_angle_26 rfl 3 rfl rfl ?_
    refine z_iconst (v := nI 2) (n := 28) hC dX3_angle_27 (by decide) rfl ?_
    refine z_icmp_ge_n (tgt := 44) (n := 31) hC c0 2 rfl rfl (by omega) (by omega) dX3_angle_28 (by decide) rfl (fun c2 => ?_) (fun c2 => absurd c2 (by omega))
    refine z_aload_n (n := 45) hC dX3_angle_44 rfl 1 rfl rfl ?_
    refine gy_X3_9 (v := .ref tr) (n := 48) hC (MW.l (MW.l (MW.at 0 rfl))) rfl dX3_angle_45 rfl ?_
    refine z_iload_n (n := 49) hC dX3_angle_48 rfl 2 rfl rfl ?_
    refine y_qald (v := ra s0) (n := 50) hC 2 s0 (MW.l (MW.r (MW.at 0 rfl))) rfl rfl (by omega) (by omega) (rfF_at (by omega)) dX3_angle_49 rfl ?_
    refine z_iconst (v := nI 0) (n := 51) hC dX3_angle_50 (by decide) rfl ?_
    refine y_iald (v := b s0) (n := 52) hC 0 0 (MW.r (MW.pool s0 (by omega))) rfl rfl (by decide) (by decide) dX3_angle_51 rfl rfl ?_
    refine z_iload_n (n := 53) hC dX3_angle_52 rfl 0 rfl rfl ?_
    refine z_iadd (v := (b s0) + (((r s0) * (nI c0 - nI 2)) / (nI 2))) (n := 54) hC dX3_angle_53 rfl rfl ?_
    refine z_iret hC hr hlocks () ?_ rfl dX3_angle_54 (by omega) (by omega)
    rfl
  · refine z_iconst (v := nI 2) (n := 14) hC dX3_angle_13 (by decide) rfl ?_
    refine z_iload_n (n := 15) hC dX3_angle_14 rfl 2 rfl rfl ?_
    refine z_isub (v := nI 2 - nI c0) (n := 16) hC dX3_angle_15 rfl rfl ?_
    refine z_goto (n := 22) hC dX3_angle_16 (by decide) ?_
    refine z_imul (v := (r s0) * (nI 2 - nI c0)) (n := 23) hC dX3_angle_22 rfl rfl ?_
    refine z_iconst (v := nI 2) (n := 24) hC dX3_angle_23 (by decide) rfl ?_
    refine z_idiv (v := ((r s0) * (nI 2 - nI c0)) / (nI 2)) (n := 25) hC dX3_angle_24 (by decide) rfl rfl ?_
    refine z_istore_n (lv' := [(3, .int (((r s0) * (nI 2 - nI c0)) / (nI 2))), (0, .ref q), (1, .int (nI s0)), (2, .int (nI c0))]) (n := 26) hC dX3_angle_25 rfl (by decide) rfl rfl ?_
    refine z_iload_n (n := 27) hC dX3_angle_26 rfl 3 rfl rfl ?_
    refine z_iconst (v := nI 2) (n := 28) hC dX3_angle_27 (by decide) rfl ?_
    refine z_icmp_ge_n (tgt := 44) (n := 31) hC c0 2 rfl rfl (by omega) (by omega) dX3_angle_28 (by decide) rfl (fun c3 => absurd c3 (by omega)) (fun c3 => ?_)
    refine z_aload_n (n := 32) hC dX3_angle_31 rfl 1 rfl rfl ?_
    refine gy_X3_9 (v := .ref tr) (n := 35) hC (MW.l (MW.l (MW.at 0 rfl))) rfl dX3_angle_32 rfl ?_
    refine z_iload_n (n := 36) hC dX3_angle_35 rfl 2 rfl rfl ?_
    refine y_qald (v := ra s0) (n := 37) hC 2 s0 (MW.l (MW.r (MW.at 0 rfl))) rfl rfl (by omega) (by omega) (rfF_at (by omega)) dX3_angle_36 rfl ?_
    refine z_iconst (v := nI 0) (n := 38) hC dX3_angle_37 (by decide) rfl ?_
    refine y_iald (v := b s0) (n := 39) hC 0 0 (MW.r (MW.pool s0 (by omega))) rfl rfl (by decide) (by decide) dX3_angle_38 rfl rfl ?_
    refine z_iload_n (n := 40) hC dX3_angle_39 rfl 0 rfl rfl ?_
    refine z_isub (v := (b s0) - (((r s0) * (nI 2 - nI c0)) / (nI 2))) (n := 41) hC dX3_angle_40 rfl rfl ?_
    refine z_goto (n := 54) hC dX3_angle_41 (by decide) ?_
    refine z_iret hC hr hlocks () ?_ rfl dX3_angle_54 (by omega) (by omega)
    exact ang_lo (hR5 s0 hs) hc

set_option maxRecDepth 100000 in
set_option maxHeartbeats 4000000 in
theorem k_X3_angleFor (l : Launch) (G : va_G) (cI cZ cJ : ClassId) (q : Nat) (tr : Nat) (go : Nat) (T : Nat) (ra : Nat → Nat) (b : Nat → Int32) (r : Nat → Int32) (g : Nat) (hg : g < 6) (hT : T < 2 ^ 29) (hR5 : ∀ k, k < 5 → inN (r k) 45) : MI (Unit) l yX3_angleFor cX3_angleFor 2 1 23 G (tY cI cZ cJ) [.ref q, .int (nI g)] ((wQ q tr go T) ++ (wF tr cJ 5 ra) ++ (wR ra cI b r)) (fun zr _ => zr = angF b r (stF T g) (T % 5)) (fun _ => (wQ q tr go T) ++ (wF tr cJ 5 ra) ++ (wR ra cI b r)) 0 0 := by
  refine MI_of (by decide) (Nat.le_of_ble_eq_true rfl) [(0, .ref q), (1, .int (nI g))] rfl ?_
  intro p e s m below meth c hC hr hlocks hname
  have hC : Cx p s m _ c cX3_angleFor 2 RX3 G (tY cI cZ cJ) _ := hC
  refine z_aload_n (n := 1) hC dX3_angleFor_0 rfl 0 rfl rfl ?_
  refine z_iload_n (n := 2) hC dX3_angleFor_1 rfl 1 rfl rfl ?_
  refine z_aload_n (n := 3) hC dX3_angleFor_2 rfl 0 rfl rfl ?_
  refine gy_X3_19 (v := .int (nI T)) (n := 6) hC (MW.l (MW.l (MW.at 0 rfl))) rfl dX3_angleFor_3 rfl ?_
  refine z_iconst (v := nI 5) (n := 7) hC dX3_angleFor_6 (by decide) rfl ?_
  refine z_idiv (v := nI (T / 5)) (n := 8) hC dX3_angleFor_7 (by decide) (pk_div (by omega) (by omega) (by omega)) rfl ?_
  refine z_iadd (v := nI (g + T / 5)) (n := 9) hC dX3_angleFor_8 (nI_add g (T / 5)) rfl ?_
  refine z_iconst (v := nI 5) (n := 10) hC dX3_angleFor_9 (by decide) rfl ?_
  refine z_irem (v := nI ((g + T / 5) % 5)) (n := 11) hC dX3_angleFor_10 (by decide) (pk_rem (by omega) (by omega) (by omega)) rfl ?_
  refine z_aload_n (n := 12) hC dX3_angleFor_11 rfl 0 rfl rfl ?_
  refine gy_X3_19 (v := .int (nI T)) (n := 15) hC (MW.l (MW.l (MW.at 0 rfl))) rfl dX3_angleFor_12 rfl ?_
  refine z_iconst (v := nI 5) (n := 16) hC dX3_angleFor_15 (by decide) rfl ?_
  refine z_irem (v := nI (T % 5)) (n := 17) hC dX3_angleFor_16 (by decide) (pk_rem (by omega) (by omega) (by omega)) rfl ?_
  refine y_callVi (R := { frames := 1, cells := 0, slots := 0, locals := 23 }) (cells := 0) (slots := 0) (n := 20) (rest := []) (As := [.int (nI ((g + T / 5) % 5)), .int (nI (T % 5))]) hC (k_X3_angle l G cI cZ cJ q tr go T ra b r ((g + T / 5) % 5) (T % 5) (Nat.mod_lt _ (by decide)) (Nat.mod_lt _ (by decide)) hR5) kg_X3_27 kd_yX3_angle dX3_angleFor_17 ⟨Nat.le_of_ble_eq_true rfl, Nat.le_of_ble_eq_true rfl⟩ 0 rfl rfl rfl ([]) (catL_permN 3 [wQ q tr go T, wF tr cJ 5 ra, wR ra cI b r] [0, 1, 2] [] rfl [wQ q tr go T, wF tr cJ 5 ra, wR ra cI b r] [] rfl rfl (by decide)) rfl (Nat.le_of_ble_eq_true rfl) ⟨by show 0 + 0 ≤ 0; omega, by show 0 + 0 ≤ 0; omega⟩ (fun u1 => (wQ q tr go T) ++ (wF tr cJ 5 ra) ++ (wR ra cI b r)) (fun _ => []) (fun u1 => catL_back 3 [wQ q tr go T, wF tr cJ 5 ra, wR ra cI b r] [0, 1, 2] [] rfl [wQ q tr go T, wF tr cJ 5 ra, wR ra cI b r] [] rfl rfl (by decide)) rfl rfl (fun r2 u1 h3 => ?_)
  subst h3
  refine z_iret hC hr hlocks () ?_ rfl dX3_angleFor_20 (by omega) (by omega)
  rfl

set_option maxRecDepth 100000 in
set_option maxHeartbeats 4000000 in
theorem k_X3_hit (l : Launch) (G : va_G) (cI cZ cJ : ClassId) (q : Nat) (tr : Nat) (go : Nat) (T : Nat) (ra : Nat → Nat) (b : Nat → Int32) (r : Nat → Int32) (ga : Nat → Nat) (sw : Nat → Int32) (st : Nat → Int32) (fa : Nat → Int32) (sc : Nat → Int32) (fi : Nat → Int32) (mi : Nat → Int32) (n : Nat) (g : Nat) (hn : n ≤ 6) (hT : T < 2 ^ 29) (hg : g < n) (hst : ∀ g, g < n → nI 1 ≤ st g) (hR5 : ∀ k, k < 5 → inN (r k) 45) : MI (Unit) l yX3_hit cX3_hit 4 2 44 G (tY cI cZ cJ) [.ref q, .int (nI g)] ((wQ q tr go T) ++ (wF tr cJ 5 ra) ++ (wR ra cI b r) ++ (wF go cJ n ga) ++ (wG ga cI sw st fa sc fi mi n)) (fun zr _ => zr = ouF (sw g) (st g) (fa g) (amF b r T g)) (fun _ => (wQ q tr go T) ++ (wF tr cJ 5 ra) ++ (wR ra cI b r) ++ (wF go cJ n ga) ++ (wG ga cI sw st fa sc fi mi n)) 0 0 := by
  refine MI_of (by decide) (Nat.le_of_ble_eq_true rfl) [(0, .ref q), (1, .int (nI g))] rfl ?_
  intro p e s m below meth c hC hr hlocks hname
  have hC : Cx p s m _ c cX3_hit 4 RX3 G (tY cI cZ cJ) _ := hC
  refine z_aload_n (n := 1) hC dX3_hit_0 rfl 0 rfl rfl ?_
  refine gy_X3_15 (v := .ref go) (n := 4) hC (MW.l (MW.l (MW.l (MW.l (MW.at 0 rfl))))) rfl dX3_hit_1 rfl ?_
  refine z_iload_n (n := 5) hC dX3_hit_4 rfl 1 rfl rfl ?_
  refine y_qald (v := ga g) (n := 6) hC 2 g (MW.l (MW.r (MW.at 0 rfl))) rfl rfl (by omega) (by omega) (rfF_at (by omega)) dX3_hit_5 rfl ?_
  refine z_astore_n (lv' := [(2, .ref (ga g)), (0, .ref q), (1, .int (nI g))]) (n := 7) hC dX3_hit_6 rfl (by decide) rfl rfl ?_
  refine z_aload_n (n := 8) hC dX3_hit_7 rfl 1 rfl rfl ?_
  refine z_iload_n (n := 9) hC dX3_hit_8 rfl 2 rfl rfl ?_
  refine y_callVi (R := { frames := 2, cells := 0, slots := 0, locals := 44 }) (cells := 0) (slots := 0) (n := 12) (rest := []) (As := [.int (nI g)]) hC (k_X3_angleFor l G cI cZ cJ q tr go T ra b r g (by omega) (by omega) hR5) kg_X3_31 kd_yX3_angleFor dX3_hit_9 ⟨Nat.le_of_ble_eq_true rfl, Nat.le_of_ble_eq_true rfl⟩ 0 rfl rfl rfl ((wF go cJ n ga) ++ (wG ga cI sw st fa sc fi mi n)) (catL_permN 5 [wQ q tr go T, wF tr cJ 5 ra, wR ra cI b r, wF go cJ n ga, wG ga cI sw st fa sc fi mi n] [0, 1, 2] [3, 4] rfl [wQ q tr go T, wF tr cJ 5 ra, wR ra cI b r] [wF go cJ n ga, wG ga cI sw st fa sc fi mi n] rfl rfl (by decide)) rfl (Nat.le_of_ble_eq_true rfl) ⟨by show 0 + 0 ≤ 0; omega, by show 0 + 0 ≤ 0; omega⟩ (fun u1 => (wQ q tr go T) ++ (wF tr cJ 5 ra) ++ (wR ra cI b r) ++ (wF go cJ n ga) ++ (wG ga cI sw st fa sc fi mi n)) (fun _ => []) (fun u1 => catL_back 5 [wQ q tr go T, wF tr cJ 5 ra, wR ra cI b r, wF go cJ n ga, wG ga cI sw st fa sc fi mi n] [0, 1, 2] [3, 4] rfl [wQ q tr go T, wF tr cJ 5 ra, wR ra cI b r] [wF go cJ n ga, wG ga cI sw st fa sc fi mi n] rfl rfl (by decide)) rfl rfl (fun r2 u1 h3 => ?_)
  subst h3
  refine y_callSi (R := { frames := 2, cells := 0, slots := 0, locals := 44 }) (cells := 0) (slots := 0) (n := 15) (rest := []) (As := [.int (angF b r (stF T g) (T % 5))]) hC (k_X3_amount l G cI cZ cJ (angF b r (stF T g) (T % 5)) ) kg_X3_35 kd_yX3_amount dX3_hit_12 ⟨Nat.le_of_ble_eq_true rfl, Nat.le_of_ble_eq_true rfl⟩ ((wQ q tr go T) ++ (wF tr cJ 5 ra) ++ (wR ra cI b r) ++ (wF go cJ n ga) ++ (wG ga cI sw st fa sc fi mi n)) (catL_permN 5 [wQ q tr go T, wF tr cJ 5 ra, wR ra cI b r, wF go cJ n ga, wG ga cI sw st fa sc fi mi n] [] [0, 1, 2, 3, 4] rfl [] [wQ q tr go T, wF tr cJ 5 ra, wR ra cI b r, wF go cJ n ga, wG ga cI sw st fa sc fi mi n] rfl rfl (by decide)) rfl (Nat.le_of_ble_eq_true rfl) ⟨by show 0 + 0 ≤ 0; omega, by show 0 + 0 ≤ 0; omega⟩ (fun u4 => (wQ q tr go T) ++ (wF tr cJ 5 ra) ++ (wR ra cI b r) ++ (wF go cJ n ga) ++ (wG ga cI sw st fa sc fi mi n)) (fun _ => []) (fun u4 => catL_back 5 [wQ q tr go T, wF tr cJ 5 ra, wR ra cI b r, wF go cJ n ga, wG ga cI sw st fa sc fi mi n] [] [0, 1, 2, 3, 4] rfl [] [wQ q tr go T, wF tr cJ 5 ra, wR ra cI b r, wF go cJ n ga, wG ga cI sw st fa sc fi mi n] rfl rfl (by decide)) rfl rfl (fun r5 u4 h6 => ?_)
  subst h6
  refine z_top (y := amF b r T g) rfl ?_
  refine z_istore_n (lv' := [(3, .int (amF b r T g)), (2, .ref (ga g)), (0, .ref q), (1, .int (nI g))]) (n := 16) hC dX3_hit_15 rfl (by decide) rfl rfl ?_
  refine z_iload_n (n := 17) hC dX3_hit_16 rfl 0 rfl rfl ?_
  refine z_aload_n (n := 18) hC dX3_hit_17 rfl 1 rfl rfl ?_
  refine z_iconst (v := nI 2) (n := 19) hC dX3_hit_18 (by decide) rfl ?_
  refine y_iald (v := fa g) (n := 20) hC 0 2 (MW.r (MW.pool g (by omega))) rfl rfl (by decide) (by decide) dX3_hit_19 rfl rfl ?_
  refine z_aload_n (n := 21) hC dX3_hit_20 rfl 1 rfl rfl ?_
  refine z_iconst (v := nI 1) (n := 22) hC dX3_hit_21 (by decide) rfl ?_
  refine y_iald (v := st g) (n := 23) hC 0 1 (MW.r (MW.pool g (by omega))) rfl rfl (by decide) (by decide) dX3_hit_22 rfl rfl ?_
  refine z_idiv (v := fa g / st g) (n := 24) hC dX3_hit_23 (ne0_1 (hst g hg)) rfl rfl ?_
  refine z_iadd (v := (amF b r T g) + (fa g / st g)) (n := 25) hC dX3_hit_24 rfl rfl ?_
  refine z_aload_n (n := 26) hC dX3_hit_25 rfl 1 rfl rfl ?_
  refine z_iconst (v := nI 0) (n := 27) hC dX3_hit_26 (by decide) rfl ?_
  refine y_iald (v := sw g) (n := 28) hC 0 0 (MW.r (MW.pool g (by omega))) rfl rfl (by decide) (by decide) dX3_hit_27 rfl rfl ?_
  refine z_icmp_gt (tgt := 35) (n := 31) hC dX3_hit_28 (by decide) rfl (fun c7 => ?_) (fun c7 => ?_)
  · refine z_iload_n (n := 36) hC dX3_hit_35 rfl 0 rfl rfl ?_
    refine z_aload_n (n := 37) hC dX3_hit_36 rfl 1 rfl rfl ?_
    refine z_iconst (v := nI 0) (n := 38) hC dX3_hit_37 (by decide) rfl ?_
    refine y_iald (v := sw g) (n := 39) hC 0 0 (MW.r (MW.pool g (by omega))) rfl rfl (by decide) (by decide) dX3_hit_38 rfl rfl ?_
    refine z_icmp_gt (tgt := 46) (n := 42) hC dX3_hit_39 (by decide) rfl (fun c8 => ?_) (fun c8 => ?_)
    · refine z_iconst (v := nI 0) (n := 47) hC dX3_hit_46 (by decide) rfl ?_
      refine z_iret hC hr hlocks () ?_ rfl dX3_hit_47 (by omega) (by omega)
      simp only [ouF, trF, if_pos (hst g hg), if_pos c7, if_pos c8]
    · refine z_iconst (v := nI 1) (n := 43) hC dX3_hit_42 (by decide) rfl ?_
      refine z_goto (n := 47) hC dX3_hit_43 (by decide) ?_
      refine z_iret hC hr hlocks () ?_ rfl dX3_hit_47 (by omega) (by omega)
      simp only [ouF, trF, if_pos (hst g hg), if_pos c7, if_neg c8]
  · refine z_iconst (v := nI 2) (n := 32) hC dX3_hit_31 (by decide) rfl ?_
    refine z_goto (n := 47) hC dX3_hit_32 (by decide) ?_
    refine z_iret hC hr hlocks () ?_ rfl dX3_hit_47 (by omega) (by omega)
    simp only [ouF, trF, if_pos (hst g hg), if_neg c7]

set_option maxRecDepth 100000 in
set_option maxHeartbeats 4000000 in
theorem k_X3_pass (l : Launch) (G : va_G) (cI cZ cJ : ClassId) (q : Nat) (tr : Nat) (go : Nat) (T : Nat) (ra : Nat → Nat) (b : Nat → Int32) (r : Nat → Int32) (ga : Nat → Nat) (sw : Nat → Int32) (st : Nat → Int32) (fa : Nat → Int32) (sc : Nat → Int32) (fi : Nat → Int32) (mi : Nat → Int32) (n : Nat) (hn : n ≤ 6) (hT : T < 2 ^ 29) (hst : ∀ g, g < n → nI 1 ≤ st g) (hR5 : ∀ k, k < 5 → inN (r k) 45) (hfa : ∀ g, inN (fa g) (2 ^ 27)) : MI (Unit) l yX3_pass cX3_pass 6 3 67 G (tY cI cZ cJ) [.ref q] ((wQ q tr go T) ++ (wF tr cJ 5 ra) ++ (wR ra cI b r) ++ (wF go cJ n ga) ++ (wG ga cI sw st fa sc fi mi n)) (fun zr _ => zr = nI (ctF (msB sw st b r fa T) n)) (fun _ => (wQ q tr go (T + 1)) ++ (wF tr cJ 5 ra) ++ (wR ra cI b r) ++ (wF go cJ n ga) ++ (wG ga cI sw st (pwF fa (plA sw st b r sc fi mi fa T 1) n) (pwF sc (plS sw st b r sc fi mi fa T 1) n) (pwF fi (plF sw st b r sc fi mi fa T 1) n) (pwF mi (plM sw st b r sc fi mi fa T 1) n) n)) 0 0 := by
  refine MI_of (by decide) (Nat.le_of_ble_eq_true rfl) [(0, .ref q)] rfl ?_
  intro p e s m below meth c hC hr hlocks hname
  have hC : Cx p s m _ c cX3_pass 6 RX3 G (tY cI cZ cJ) _ := hC
  refine z_iconst (v := nI 0) (n := 1) hC dX3_pass_0 (by decide) rfl ?_
  refine z_istore_n (lv' := [(1, .int (nI 0)), (0, .ref q)]) (n := 2) hC dX3_pass_1 rfl (by decide) rfl rfl ?_
  refine z_iconst (v := nI 0) (n := 3) hC dX3_pass_2 (by decide) rfl ?_
  refine z_istore_n (lv' := [(2, .int (nI 0)), (1, .int (nI 0)), (0, .ref q)]) (n := 4) hC dX3_pass_3 rfl (by decide) rfl rfl ?_
  refine z_lv [2, 1, 0] (lv' := [(0, .ref q), (1, .int (nI (ctF (msB sw st b r fa T) 0))), (2, .int (nI 0))]) rfl ?_
  refine z_weq (ws' := (wQ q tr go T) ++ (wF tr cJ 5 ra) ++ (wR ra cI b r) ++ (wF go cJ n ga) ++ (wG ga cI sw st (pwF fa (shA sw st b r sc fi mi fa T) 0) (pwF sc (shS sw st b r sc fi mi fa T) 0) (pwF fi (shF sw st b r sc fi mi fa T) 0) (pwF mi (shM sw st b r sc fi mi fa T) 0) n)) (by simp only [pwF_0]) ?_
  refine z_loop n 0 (fun i => (wQ q tr go T) ++ (wF tr cJ 5 ra) ++ (wR ra cI b r) ++ (wF go cJ n ga) ++ (wG ga cI sw st (pwF fa (shA sw st b r sc fi mi fa T) i) (pwF sc (shS sw st b r sc fi mi fa T) i) (pwF fi (shF sw st b r sc fi mi fa T) i) (pwF mi (shM sw st b r sc fi mi fa T) i) n)) (fun i => [(0, .ref q), (1, .int (nI (ctF (msB sw st b r fa T) i))), (2, .int (nI i))]) (by omega) rfl rfl (fun i hi0 hi1 ih => ?_)
  refine z_iload_n (n := 5) hC dX3_pass_4 rfl 2 rfl rfl ?_
  refine z_aload_n (n := 6) hC dX3_pass_5 rfl 0 rfl rfl ?_
  refine gy_X3_15 (v := .ref go) (n := 9) hC (MW.l (MW.l (MW.l (MW.l (MW.at 0 rfl))))) rfl dX3_pass_6 rfl ?_
  refine y_alen (v := nI n) (n := 10) hC 2 (MW.l (MW.r (MW.at 0 rfl))) rfl rfl dX3_pass_9 rfl ?_
  refine z_icmp_ge_n (tgt := 96) (n := 13) hC i n rfl rfl (by omega) (by omega) dX3_pass_10 (by decide) rfl (fun c1 => ?_) (fun c1 => ?_)
  · obtain rfl : n = i := by omega
    refine z_aload_n (n := 97) hC dX3_pass_96 rfl 0 rfl rfl ?_
    refine gy_X3_15 (v := .ref go) (n := 100) hC (MW.l (MW.l (MW.l (MW.l (MW.at 0 rfl))))) rfl dX3_pass_97 rfl ?_
    refine z_astore_n (lv' := [(2, .ref go), (0, .ref q), (1, .int (nI (ctF (msB sw st b r fa T) n)))]) (n := 101) hC dX3_pass_100 rfl (by decide) rfl rfl ?_
    refine z_aload_n (n := 102) hC dX3_pass_101 rfl 0 rfl rfl ?_
    refine y_alen (v := nI n) (n := 103) hC 2 (MW.l (MW.r (MW.at 0 rfl))) rfl rfl dX3_pass_102 rfl ?_
    refine z_istore_n (lv' := [(3, .int (nI n)), (2, .ref go), (0, .ref q), (1, .int (nI (ctF (msB sw st b r fa T) n)))]) (n := 104) hC dX3_pass_103 rfl (by decide) rfl rfl ?_
    refine z_iconst (v := nI 0) (n := 105) hC dX3_pass_104 (by decide) rfl ?_
    refine z_istore (lv' := [(4, .int (nI 0)), (3, .int (nI n)), (2, .ref go), (0, .ref q), (1, .int (nI (ctF (msB sw st b r fa T) n)))]) (n := 107) hC dX3_pass_105 (by decide) rfl rfl ?_
    refine z_lv [3, 4, 2, 1, 0] (lv' := [(0, .ref q), (1, .int (nI (ctF (msB sw st b r fa T) n))), (2, .ref go), (3, .int (nI n)), (4, .int (nI 0))]) rfl ?_
    refine z_weq (ws' := (wQ q tr go T) ++ (wF tr cJ 5 ra) ++ (wR ra cI b r) ++ (wF go cJ n ga) ++ (wG ga cI sw st (pwF (pwF fa (shA sw st b r sc fi mi fa T) n) (plA sw st b r sc fi mi fa T 1) 0) (pwF sc (shS sw st b r sc fi mi fa T) n) (pwF fi (shF sw st b r sc fi mi fa T) n) (pwF mi (shM sw st b r sc fi mi fa T) n) n)) (by simp only [pwF_0]) ?_
    refine z_loop n 0 (fun j => (wQ q tr go T) ++ (wF tr cJ 5 ra) ++ (wR ra cI b r) ++ (wF go cJ n ga) ++ (wG ga cI sw st (pwF (pwF fa (shA sw st b r sc fi mi fa T) n) (plA sw st b r sc fi mi fa T 1) j) (pwF sc (shS sw st b r sc fi mi fa T) n) (pwF fi (shF sw st b r sc fi mi fa T) n) (pwF mi (shM sw st b r sc fi mi fa T) n) n)) (fun j => [(0, .ref q), (1, .int (nI (ctF (msB sw st b r fa T) n))), (2, .ref go), (3, .int (nI n)), (4, .int (nI j))]) (by omega) rfl rfl (fun j hi0j hi1j ihj => ?_)
    refine z_iload (n := 109) hC dX3_pass_107 4 rfl rfl ?_
    refine z_iload_n (n := 110) hC dX3_pass_109 rfl 3 rfl rfl ?_
    refine z_icmp_ge_n (tgt := 157) (n := 113) hC j n rfl rfl (by omega) (by omega) dX3_pass_110 (by decide) rfl (fun c2 => ?_) (fun c2 => ?_)
    · obtain rfl : n = j := by omega
      refine z_aload_n (n := 158) hC dX3_pass_157 rfl 0 rfl rfl ?_
      refine z_dup (n := 159) hC dX3_pass_158 rfl rfl ?_
      refine gy_X3_19 (v := .int (nI T)) (n := 162) hC (MW.l (MW.l (MW.l (MW.l (MW.at 0 rfl))))) rfl dX3_pass_159 rfl ?_
      refine z_iconst (v := nI 1) (n := 163) hC dX3_pass_162 (by decide) rfl ?_
      refine z_iadd (v := nI (T + 1)) (n := 164) hC dX3_pass_163 (nI_add T 1) rfl ?_
      refine py_X3_19 (ws' := (wQ q tr go (T + 1)) ++ (wF tr cJ 5 ra) ++ (wR ra cI b r) ++ (wF go cJ n ga) ++ (wG ga cI sw st (pwF (pwF fa (shA sw st b r sc fi mi fa T) n) (plA sw st b r sc fi mi fa T 1) n) (pwF sc (shS sw st b r sc fi mi fa T) n) (pwF fi (shF sw st b r sc fi mi fa T) n) (pwF mi (shM sw st b r sc fi mi fa T) n) n)) (n := 167) hC (Nat.le_of_ble_eq_true rfl) (PW.l (PW.l (PW.l (PW.l (PW.at 0 rfl rfl))))) dX3_pass_164 rfl ?_
      refine z_iload_n (n := 168) hC dX3_pass_167 rfl 1 rfl rfl ?_
      refine z_iret hC hr hlocks () ?_ (by simp only [pl1_S, pl1_F, pl1_M, pwF_wp]) dX3_pass_168 (by omega) (by omega)
      rfl
    · refine z_aload_n (n := 114) hC dX3_pass_113 rfl 2 rfl rfl ?_
      refine z_iload (n := 116) hC dX3_pass_114 4 rfl rfl ?_
      refine y_qald (v := ga j) (n := 117) hC 2 j (MW.l (MW.r (MW.at 0 rfl))) rfl rfl (by omega) (by omega) (rfF_at (by omega)) dX3_pass_116 rfl ?_
      refine z_astore (lv' := [(5, .ref (ga j)), (0, .ref q), (1, .int (nI (ctF (msB sw st b r fa T) n))), (2, .ref go), (3, .int (nI n)), (4, .int (nI j))]) (n := 119) hC dX3_pass_117 (by decide) rfl rfl ?_
      refine z_aload_n (n := 120) hC dX3_pass_119 rfl 1 rfl rfl ?_
      refine gy_X3_19 (v := .int (nI T)) (n := 123) hC (MW.l (MW.l (MW.l (MW.l (MW.at 0 rfl))))) rfl dX3_pass_120 rfl ?_
      refine z_iconst (v := nI 5) (n := 124) hC dX3_pass_123 (by decide) rfl ?_
      refine z_irem (v := nI (T % 5)) (n := 125) hC dX3_pass_124 (by decide) (pk_rem (by omega) (by omega) (by omega)) rfl ?_
      refine z_iconst (v := nI 4) (n := 126) hC dX3_pass_125 (by decide) rfl ?_
      refine z_icmp_ne_n (tgt := 151) (n := 129) hC (T % 5) 4 rfl rfl (by omega) (by omega) dX3_pass_126 (by decide) rfl (fun c3 => ?_) (fun c3 => ?_)
      · refine z_iinc (k0 := 5) (v := nI (j + 1)) (lv' := [(4, .int (nI (j + 1))), (5, .ref (ga j)), (0, .ref q), (1, .int (nI (ctF (msB sw st b r fa T) n))), (2, .ref go), (3, .int (nI n))]) (n := 154) hC dX3_pass_151 rfl (nI_add j 1) (by decide) rfl rfl ?_
        refine z_goto (n := 107) hC dX3_pass_154 (by decide) ?_
        refine z_lv [2, 3, 4, 5, 0] (lv' := [(0, .ref q), (1, .int (nI (ctF (msB sw st b r fa T) n))), (2, .ref go), (3, .int (nI n)), (4, .int (nI (j + 1)))]) rfl ?_
        refine z_weq (ws' := (wQ q tr go T) ++ (wF tr cJ 5 ra) ++ (wR ra cI b r) ++ (wF go cJ n ga) ++ (wG ga cI sw st (pwF (pwF fa (shA sw st b r sc fi mi fa T) n) (plA sw st b r sc fi mi fa T 1) (j + 1)) (pwF sc (shS sw st b r sc fi mi fa T) n) (pwF fi (shF sw st b r sc fi mi fa T) n) (pwF mi (shM sw st b r sc fi mi fa T) n) n)) (by rw [pwF_k (f := pwF fa (shA sw st b r sc fi mi fa T) n) (h := plA sw st b r sc fi mi fa T 1) (k := j) (by rw [pwF_lt (by omega), pl1_A' c3])]) ?_
        exact ihj (j + 1) (by omega) (by omega)
      · refine z_aload (n := 131) hC dX3_pass_129 0 rfl rfl ?_
        refine z_iconst (v := nI 2) (n := 132) hC dX3_pass_131 (by decide) rfl ?_
        refine z_aload (n := 134) hC dX3_pass_132 0 rfl rfl ?_
        refine z_iconst (v := nI 2) (n := 135) hC dX3_pass_134 (by decide) rfl ?_
        refine y_iald (v := shA sw st b r sc fi mi fa T j) (n := 136) hC 0 2 (MW.r (MW.pool j (by omega))) rfl rfl (by decide) (by decide) dX3_pass_135 ((pwF_at (Nat.le_refl _)).trans (pwF_lt (by omega))) rfl ?_
        refine z_iconst (v := nI 3) (n := 137) hC dX3_pass_136 (by decide) rfl ?_
        refine z_icmp_ge (tgt := 144) (n := 140) hC dX3_pass_137 (by decide) rfl (fun c4 => ?_) (fun c4 => ?_)
        · refine z_aload (n := 146) hC dX3_pass_144 0 rfl rfl ?_
          refine z_iconst (v := nI 2) (n := 147) hC dX3_pass_146 (by decide) rfl ?_
          refine y_iald (v := shA sw st b r sc fi mi fa T j) (n := 148) hC 0 2 (MW.r (MW.pool j (by omega))) rfl rfl (by decide) (by decide) dX3_pass_147 ((pwF_at (Nat.le_refl _)).trans (pwF_lt (by omega))) rfl ?_
          refine z_iconst (v := nI 3) (n := 149) hC dX3_pass_148 (by decide) rfl ?_
          refine z_isub (v := (shA sw st b r sc fi mi fa T j) - (nI 3)) (n := 150) hC dX3_pass_149 rfl rfl ?_
          refine y_iast (ws' := (wQ q tr go T) ++ (wF tr cJ 5 ra) ++ (wR ra cI b r) ++ (wF go cJ n ga) ++ (wG ga cI sw st (pwF (pwF fa (shA sw st b r sc fi mi fa T) n) (plA sw st b r sc fi mi fa T 1) (j + 1)) (pwF sc (shS sw st b r sc fi mi fa T) n) (pwF fi (shF sw st b r sc fi mi fa T) n) (pwF mi (shM sw st b r sc fi mi fa T) n) n)) (n := 151) hC 0 2 rfl rfl (by decide) (by decide) dX3_pass_150 rfl (PW.r (PW.pool j (by omega) (gR_2.trans (congrArg (fun z9 => gR sw st z9 (pwF sc (shS sw st b r sc fi mi fa T) n) (pwF fi (shF sw st b r sc fi mi fa T) n) (pwF mi (shM sw st b r sc fi mi fa T) n)) (pwF_e (p1_ge (hfa j) (by decide) c3 c4)))))) rfl ?_
          refine z_iinc (k0 := 5) (v := nI (j + 1)) (lv' := [(4, .int (nI (j + 1))), (5, .ref (ga j)), (0, .ref q), (1, .int (nI (ctF (msB sw st b r fa T) n))), (2, .ref go), (3, .int (nI n))]) (n := 154) hC dX3_pass_151 rfl (nI_add j 1) (by decide) rfl rfl ?_
          refine z_goto (n := 107) hC dX3_pass_154 (by decide) ?_
          refine z_lv [2, 3, 4, 5, 0] (lv' := [(0, .ref q), (1, .int (nI (ctF (msB sw st b r fa T) n))), (2, .ref go), (3, .int (nI n)), (4, .int (nI (j + 1)))]) rfl ?_
          exact ihj (j + 1) (by omega) (by omega)
        · refine z_iconst (v := nI 0) (n := 141) hC dX3_pass_140 (by decide) rfl ?_
          refine z_goto (n := 150) hC dX3_pass_141 (by decide) ?_
          refine y_iast (ws' := (wQ q tr go T) ++ (wF tr cJ 5 ra) ++ (wR ra cI b r) ++ (wF go cJ n ga) ++ (wG ga cI sw st (pwF (pwF fa (shA sw st b r sc fi mi fa T) n) (plA sw st b r sc fi mi fa T 1) (j + 1)) (pwF sc (shS sw st b r sc fi mi fa T) n) (pwF fi (shF sw st b r sc fi mi fa T) n) (pwF mi (shM sw st b r sc fi mi fa T) n) n)) (n := 151) hC 0 2 rfl rfl (by decide) (by decide) dX3_pass_150 rfl (PW.r (PW.pool j (by omega) (gR_2.trans (congrArg (fun z9 => gR sw st z9 (pwF sc (shS sw st b r sc fi mi fa T) n) (pwF fi (shF sw st b r sc fi mi fa T) n) (pwF mi (shM sw st b r sc fi mi fa T) n)) (pwF_e (p1_lt (hfa j) (by decide) c3 (Int32.not_le.mp c4))))))) rfl ?_
          refine z_iinc (k0 := 5) (v := nI (j + 1)) (lv' := [(4, .int (nI (j + 1))), (5, .ref (ga j)), (0, .ref q), (1, .int (nI (ctF (msB sw st b r fa T) n))), (2, .ref go), (3, .int (nI n))]) (n := 154) hC dX3_pass_151 rfl (nI_add j 1) (by decide) rfl rfl ?_
          refine z_goto (n := 107) hC dX3_pass_154 (by decide) ?_
          refine z_lv [2, 3, 4, 5, 0] (lv' := [(0, .ref q), (1, .int (nI (ctF (msB sw st b r fa T) n))), (2, .ref go), (3, .int (nI n)), (4, .int (nI (j + 1)))]) rfl ?_
          exact ihj (j + 1) (by omega) (by omega)
  · refine z_aload_n (n := 14) hC dX3_pass_13 rfl 0 rfl rfl ?_
    refine gy_X3_15 (v := .ref go) (n := 17) hC (MW.l (MW.l (MW.l (MW.l (MW.at 0 rfl))))) rfl dX3_pass_14 rfl ?_
    refine z_iload_n (n := 18) hC dX3_pass_17 rfl 2 rfl rfl ?_
    refine y_qald (v := ga i) (n := 19) hC 2 i (MW.l (MW.r (MW.at 0 rfl))) rfl rfl (by omega) (by omega) (rfF_at (by omega)) dX3_pass_18 rfl ?_
    refine z_astore_n (lv' := [(3, .ref (ga i)), (0, .ref q), (1, .int (nI (ctF (msB sw st b r fa T) i))), (2, .int (nI i))]) (n := 20) hC dX3_pass_19 rfl (by decide) rfl rfl ?_
    refine z_aload_n (n := 21) hC dX3_pass_20 rfl 1 rfl rfl ?_
    refine z_iload_n (n := 22) hC dX3_pass_21 rfl 3 rfl rfl ?_
    refine y_callVi (R := { frames := 3, cells := 0, slots := 0, locals := 67 }) (cells := 0) (slots := 0) (n := 25) (rest := []) (As := [.int (nI i)]) hC (k_X3_hit l G cI cZ cJ q tr go T ra b r ga sw st (pwF fa (shA sw st b r sc fi mi fa T) i) (pwF sc (shS sw st b r sc fi mi fa T) i) (pwF fi (shF sw st b r sc fi mi fa T) i) (pwF mi (shM sw st b r sc fi mi fa T) i) n i (by omega) (by omega) (by omega) hst hR5) kg_X3_38 kd_yX3_hit dX3_pass_22 ⟨Nat.le_of_ble_eq_true rfl, Nat.le_of_ble_eq_true rfl⟩ 0 rfl rfl rfl ([]) (catL_permN 5 [wQ q tr go T, wF tr cJ 5 ra, wR ra cI b r, wF go cJ n ga, wG ga cI sw st (pwF fa (shA sw st b r sc fi mi fa T) i) (pwF sc (shS sw st b r sc fi mi fa T) i) (pwF fi (shF sw st b r sc fi mi fa T) i) (pwF mi (shM sw st b r sc fi mi fa T) i) n] [0, 1, 2, 3, 4] [] rfl [wQ q tr go T, wF tr cJ 5 ra, wR ra cI b r, wF go cJ n ga, wG ga cI sw st (pwF fa (shA sw st b r sc fi mi fa T) i) (pwF sc (shS sw st b r sc fi mi fa T) i) (pwF fi (shF sw st b r sc fi mi fa T) i) (pwF mi (shM sw st b r sc fi mi fa T) i) n] [] rfl rfl (by decide)) rfl (Nat.le_of_ble_eq_true rfl) ⟨by show 0 + 0 ≤ 0; omega, by show 0 + 0 ≤ 0; omega⟩ (fun u5 => (wQ q tr go T) ++ (wF tr cJ 5 ra) ++ (wR ra cI b r) ++ (wF go cJ n ga) ++ (wG ga cI sw st (pwF fa (shA sw st b r sc fi mi fa T) i) (pwF sc (shS sw st b r sc fi mi fa T) i) (pwF fi (shF sw st b r sc fi mi fa T) i) (pwF mi (shM sw st b r sc fi mi fa T) i) n)) (fun _ => []) (fun u5 => catL_back 5 [wQ q tr go T, wF tr cJ 5 ra, wR ra cI b r, wF go cJ n ga, wG ga cI sw st (pwF fa (shA sw st b r sc fi mi fa T) i) (pwF sc (shS sw st b r sc fi mi fa T) i) (pwF fi (shF sw st b r sc fi mi fa T) i) (pwF mi (shM sw st b r sc fi mi fa T) i) n] [0, 1, 2, 3, 4] [] rfl [wQ q tr go T, wF tr cJ 5 ra, wR ra cI b r, wF go cJ n ga, wG ga cI sw st (pwF fa (shA sw st b r sc fi mi fa T) i) (pwF sc (shS sw st b r sc fi mi fa T) i) (pwF fi (shF sw st b r sc fi mi fa T) i) (pwF mi (shM sw st b r sc fi mi fa T) i) n] [] rfl rfl (by decide)) rfl rfl (fun r6 u5 h7 => ?_)
    subst h7
    refine z_top (y := ouF (sw i) (st i) (fa i) (amF b r T i)) (by rw [pwF_at (Nat.le_refl _)]) ?_
    refine z_istore (lv' := [(4, .int (ouF (sw i) (st i) (fa i) (amF b r T i))), (3, .ref (ga i)), (0, .ref q), (1, .int (nI (ctF (msB sw st b r fa T) i))), (2, .int (nI i))]) (n := 27) hC dX3_pass_25 (by decide) rfl rfl ?_
    refine z_aload_n (n := 28) hC dX3_pass_27 rfl 1 rfl rfl ?_
    refine z_iconst (v := nI 3) (n := 29) hC dX3_pass_28 (by decide) rfl ?_
    refine z_dup2 (n := 30) hC dX3_pass_29 rfl rfl rfl ?_
    refine y_iald (v := sc i) (n := 31) hC 0 3 (MW.r (MW.pool i (by omega))) rfl rfl (by decide) (by decide) dX3_pass_30 (pwF_at (Nat.le_refl _)) rfl ?_
    refine z_iload (n := 33) hC dX3_pass_31 0 rfl rfl ?_
    refine z_iadd (v := (sc i) + (ouF (sw i) (st i) (fa i) (amF b r T i))) (n := 34) hC dX3_pass_33 rfl rfl ?_
    refine y_iast (ws' := (wQ q tr go T) ++ (wF tr cJ 5 ra) ++ (wR ra cI b r) ++ (wF go cJ n ga) ++ (wG ga cI sw st (pwF fa (shA sw st b r sc fi mi fa T) i) (pwF sc (shS sw st b r sc fi mi fa T) (i + 1)) (pwF fi (shF sw st b r sc fi mi fa T) i) (pwF mi (shM sw st b r sc fi mi fa T) i) n)) (n := 35) hC 0 3 rfl rfl (by decide) (by decide) dX3_pass_34 rfl (PW.r (PW.pool i (by omega) (gR_3.trans (congrArg (fun z9 => gR sw st (pwF fa (shA sw st b r sc fi mi fa T) i) z9 (pwF fi (shF sw st b r sc fi mi fa T) i) (pwF mi (shM sw st b r sc fi mi fa T) i)) (pwF_e (by simp [shS, shq, shQ, two_ne, z_ne2, c1])))))) rfl ?_
    refine z_iload (n := 37) hC dX3_pass_35 0 rfl rfl ?_
    refine z_iconst (v := nI 2) (n := 38) hC dX3_pass_37 (by decide) rfl ?_
    refine z_icmp_ne (tgt := 48) (n := 41) hC dX3_pass_38 (by decide) rfl (fun c8 => ?_) (fun c8 => ?_)
    · refine z_iload (n := 50) hC dX3_pass_48 0 rfl rfl ?_
      refine z_if_ne (tgt := 60) (n := 53) hC dX3_pass_50 (by decide) rfl (fun c9 => ?_) (fun c9 => ?_)
      · refine z_aload_n (n := 61) hC dX3_pass_60 rfl 1 rfl rfl ?_
        refine z_iconst (v := nI 2) (n := 62) hC dX3_pass_61 (by decide) rfl ?_
        refine z_dup2 (n := 63) hC dX3_pass_62 rfl rfl rfl ?_
        refine y_iald (v := fa i) (n := 64) hC 0 2 (MW.r (MW.pool i (by omega))) rfl rfl (by decide) (by decide) dX3_pass_63 (pwF_at (Nat.le_refl _)) rfl ?_
        refine z_iload (n := 66) hC dX3_pass_64 0 rfl rfl ?_
        refine z_iconst (v := nI 2) (n := 67) hC dX3_pass_66 (by decide) rfl ?_
        refine z_icmp_ne (tgt := 74) (n := 70) hC dX3_pass_67 (by decide) rfl (fun c10 => ?_) (fun c10 => absurd c10 c8)
        refine z_iconst (v := nI 2) (n := 75) hC dX3_pass_74 (by decide) rfl ?_
        refine z_iadd (v := (fa i) + (nI 2)) (n := 76) hC dX3_pass_75 rfl rfl ?_
        refine y_iast (ws' := (wQ q tr go T) ++ (wF tr cJ 5 ra) ++ (wR ra cI b r) ++ (wF go cJ n ga) ++ (wG ga cI sw st (pwF fa (shA sw st b r sc fi mi fa T) (i + 1)) (pwF sc (shS sw st b r sc fi mi fa T) (i + 1)) (pwF fi (shF sw st b r sc fi mi fa T) i) (pwF mi (shM sw st b r sc fi mi fa T) i) n)) (n := 77) hC 0 2 rfl rfl (by decide) (by decide) dX3_pass_76 rfl (PW.r (PW.pool i (by omega) (gR_2.trans (congrArg (fun z9 => gR sw st z9 (pwF sc (shS sw st b r sc fi mi fa T) (i + 1)) (pwF fi (shF sw st b r sc fi mi fa T) i) (pwF mi (shM sw st b r sc fi mi fa T) i)) (pwF_e (by simp [shA, shq, shQ, two_ne, z_ne2, c1, c8, c9])))))) rfl ?_
        refine z_iload_n (n := 78) hC dX3_pass_77 rfl 3 rfl rfl ?_
        refine z_iload (n := 80) hC dX3_pass_78 0 rfl rfl ?_
        refine z_if_ne (tgt := 87) (n := 83) hC dX3_pass_80 (by decide) rfl (fun c11 => ?_) (fun c11 => absurd c11 c9)
        refine z_iconst (v := nI 0) (n := 88) hC dX3_pass_87 (by decide) rfl ?_
        refine z_iadd (v := nI (ctF (msB sw st b r fa T) i + 0)) (n := 89) hC dX3_pass_88 (nI_add (ctF (msB sw st b r fa T) i) 0) rfl ?_
        refine z_istore_n (lv' := [(1, .int (nI (ctF (msB sw st b r fa T) i + 0))), (4, .int (ouF (sw i) (st i) (fa i) (amF b r T i))), (3, .ref (ga i)), (0, .ref q), (2, .int (nI i))]) (n := 90) hC dX3_pass_89 rfl (by decide) rfl rfl ?_
        refine z_iinc (k0 := 4) (v := nI (i + 1)) (lv' := [(2, .int (nI (i + 1))), (1, .int (nI (ctF (msB sw st b r fa T) i + 0))), (4, .int (ouF (sw i) (st i) (fa i) (amF b r T i))), (3, .ref (ga i)), (0, .ref q)]) (n := 93) hC dX3_pass_90 rfl (nI_add i 1) (by decide) rfl rfl ?_
        refine z_goto (n := 4) hC dX3_pass_93 (by decide) ?_
        refine z_lv [4, 1, 0] (lv' := [(0, .ref q), (1, .int (nI (ctF (msB sw st b r fa T) i + 0))), (2, .int (nI (i + 1)))]) rfl ?_
        refine z_leq (lv' := [(0, .ref q), (1, .int (nI (ctF (msB sw st b r fa T) (i + 1)))), (2, .int (nI (i + 1)))]) (by simp [ctF, msB, two_ne, c1, c8, c9]) ?_
        refine z_weq (ws' := (wQ q tr go T) ++ (wF tr cJ 5 ra) ++ (wR ra cI b r) ++ (wF go cJ n ga) ++ (wG ga cI sw st (pwF fa (shA sw st b r sc fi mi fa T) (i + 1)) (pwF sc (shS sw st b r sc fi mi fa T) (i + 1)) (pwF fi (shF sw st b r sc fi mi fa T) (i + 1)) (pwF mi (shM sw st b r sc fi mi fa T) (i + 1)) n)) (by rw [pwF_k (f := fi) (h := shF sw st b r sc fi mi fa T) (k := i) (by simp [shF, shq, shQ, two_ne, z_ne2, c1, c8, c9]), pwF_k (f := mi) (h := shM sw st b r sc fi mi fa T) (k := i) (by simp [shM, shq, shQ, two_ne, z_ne2, c1, c8, c9])]) ?_
        exact ih (i + 1) (by omega) (by omega)
      · refine z_aload_n (n := 54) hC dX3_pass_53 rfl 1 rfl rfl ?_
        refine z_iconst (v := nI 5) (n := 55) hC dX3_pass_54 (by decide) rfl ?_
        refine z_dup2 (n := 56) hC dX3_pass_55 rfl rfl rfl ?_
        refine y_iald (v := mi i) (n := 57) hC 0 5 (MW.r (MW.pool i (by omega))) rfl rfl (by decide) (by decide) dX3_pass_56 (pwF_at (Nat.le_refl _)) rfl ?_
        refine z_iconst (v := nI 1) (n := 58) hC dX3_pass_57 (by decide) rfl ?_
        refine z_iadd (v := (mi i) + (nI 1)) (n := 59) hC dX3_pass_58 rfl rfl ?_
        refine y_iast (ws' := (wQ q tr go T) ++ (wF tr cJ 5 ra) ++ (wR ra cI b r) ++ (wF go cJ n ga) ++ (wG ga cI sw st (pwF fa (shA sw st b r sc fi mi fa T) i) (pwF sc (shS sw st b r sc fi mi fa T) (i + 1)) (pwF fi (shF sw st b r sc fi mi fa T) i) (pwF mi (shM sw st b r sc fi mi fa T) (i + 1)) n)) (n := 60) hC 0 5 rfl rfl (by decide) (by decide) dX3_pass_59 rfl (PW.r (PW.pool i (by omega) (gR_5.trans (congrArg (fun z9 => gR sw st (pwF fa (shA sw st b r sc fi mi fa T) i) (pwF sc (shS sw st b r sc fi mi fa T) (i + 1)) (pwF fi (shF sw st b r sc fi mi fa T) i) z9) (pwF_e (by simp [shM, shq, shQ, two_ne, z_ne2, c1, c8, c9])))))) rfl ?_
        refine z_aload_n (n := 61) hC dX3_pass_60 rfl 1 rfl rfl ?_
        refine z_iconst (v := nI 2) (n := 62) hC dX3_pass_61 (by decide) rfl ?_
        refine z_dup2 (n := 63) hC dX3_pass_62 rfl rfl rfl ?_
        refine y_iald (v := fa i) (n := 64) hC 0 2 (MW.r (MW.pool i (by omega))) rfl rfl (by decide) (by decide) dX3_pass_63 (pwF_at (Nat.le_refl _)) rfl ?_
        refine z_iload (n := 66) hC dX3_pass_64 0 rfl rfl ?_
        refine z_iconst (v := nI 2) (n := 67) hC dX3_pass_66 (by decide) rfl ?_
        refine z_icmp_ne (tgt := 74) (n := 70) hC dX3_pass_67 (by decide) rfl (fun c12 => ?_) (fun c12 => absurd c12 c8)
        refine z_iconst (v := nI 2) (n := 75) hC dX3_pass_74 (by decide) rfl ?_
        refine z_iadd (v := (fa i) + (nI 2)) (n := 76) hC dX3_pass_75 rfl rfl ?_
        refine y_iast (ws' := (wQ q tr go T) ++ (wF tr cJ 5 ra) ++ (wR ra cI b r) ++ (wF go cJ n ga) ++ (wG ga cI sw st (pwF fa (shA sw st b r sc fi mi fa T) (i + 1)) (pwF sc (shS sw st b r sc fi mi fa T) (i + 1)) (pwF fi (shF sw st b r sc fi mi fa T) i) (pwF mi (shM sw st b r sc fi mi fa T) (i + 1)) n)) (n := 77) hC 0 2 rfl rfl (by decide) (by decide) dX3_pass_76 rfl (PW.r (PW.pool i (by omega) (gR_2.trans (congrArg (fun z9 => gR sw st z9 (pwF sc (shS sw st b r sc fi mi fa T) (i + 1)) (pwF fi (shF sw st b r sc fi mi fa T) i) (pwF mi (shM sw st b r sc fi mi fa T) (i + 1))) (pwF_e (by simp [shA, shq, shQ, two_ne, z_ne2, c1, c8, c9])))))) rfl ?_
        refine z_iload_n (n := 78) hC dX3_pass_77 rfl 3 rfl rfl ?_
        refine z_iload (n := 80) hC dX3_pass_78 0 rfl rfl ?_
        refine z_if_ne (tgt := 87) (n := 83) hC dX3_pass_80 (by decide) rfl (fun c13 => absurd c9 c13) (fun c13 => ?_)
        refine z_iconst (v := nI 1) (n := 84) hC dX3_pass_83 (by decide) rfl ?_
        refine z_goto (n := 88) hC dX3_pass_84 (by decide) ?_
        refine z_iadd (v := nI (ctF (msB sw st b r fa T) i + 1)) (n := 89) hC dX3_pass_88 (nI_add (ctF (msB sw st b r fa T) i) 1) rfl ?_
        refine z_istore_n (lv' := [(1, .int (nI (ctF (msB sw st b r fa T) i + 1))), (4, .int (ouF (sw i) (st i) (fa i) (amF b r T i))), (3, .ref (ga i)), (0, .ref q), (2, .int (nI i))]) (n := 90) hC dX3_pass_89 rfl (by decide) rfl rfl ?_
        refine z_iinc (k0 := 4) (v := nI (i + 1)) (lv' := [(2, .int (nI (i + 1))), (1, .int (nI (ctF (msB sw st b r fa T) i + 1))), (4, .int (ouF (sw i) (st i) (fa i) (amF b r T i))), (3, .ref (ga i)), (0, .ref q)]) (n := 93) hC dX3_pass_90 rfl (nI_add i 1) (by decide) rfl rfl ?_
        refine z_goto (n := 4) hC dX3_pass_93 (by decide) ?_
        refine z_lv [4, 1, 0] (lv' := [(0, .ref q), (1, .int (nI (ctF (msB sw st b r fa T) i + 1))), (2, .int (nI (i + 1)))]) rfl ?_
        refine z_leq (lv' := [(0, .ref q), (1, .int (nI (ctF (msB sw st b r fa T) (i + 1)))), (2, .int (nI (i + 1)))]) (by simp [ctF, msB, two_ne, c1, c8, c9]) ?_
        refine z_weq (ws' := (wQ q tr go T) ++ (wF tr cJ 5 ra) ++ (wR ra cI b r) ++ (wF go cJ n ga) ++ (wG ga cI sw st (pwF fa (shA sw st b r sc fi mi fa T) (i + 1)) (pwF sc (shS sw st b r sc fi mi fa T) (i + 1)) (pwF fi (shF sw st b r sc fi mi fa T) (i + 1)) (pwF mi (shM sw st b r sc fi mi fa T) (i + 1)) n)) (by rw [pwF_k (f := fi) (h := shF sw st b r sc fi mi fa T) (k := i) (by simp [shF, shq, shQ, two_ne, z_ne2, c1, c8, c9])]) ?_
        exact ih (i + 1) (by omega) (by omega)
    · refine z_aload_n (n := 42) hC dX3_pass_41 rfl 1 rfl rfl ?_
      refine z_iconst (v := nI 4) (n := 43) hC dX3_pass_42 (by decide) rfl ?_
      refine z_dup2 (n := 44) hC dX3_pass_43 rfl rfl rfl ?_
      refine y_iald (v := fi i) (n := 45) hC 0 4 (MW.r (MW.pool i (by omega))) rfl rfl (by decide) (by decide) dX3_pass_44 (pwF_at (Nat.le_refl _)) rfl ?_
      refine z_iconst (v := nI 1) (n := 46) hC dX3_pass_45 (by decide) rfl ?_
      refine z_iadd (v := (fi i) + (nI 1)) (n := 47) hC dX3_pass_46 rfl rfl ?_
      refine y_iast (ws' := (wQ q tr go T) ++ (wF tr cJ 5 ra) ++ (wR ra cI b r) ++ (wF go cJ n ga) ++ (wG ga cI sw st (pwF fa (shA sw st b r sc fi mi fa T) i) (pwF sc (shS sw st b r sc fi mi fa T) (i + 1)) (pwF fi (shF sw st b r sc fi mi fa T) (i + 1)) (pwF mi (shM sw st b r sc fi mi fa T) i) n)) (n := 48) hC 0 4 rfl rfl (by decide) (by decide) dX3_pass_47 rfl (PW.r (PW.pool i (by omega) (gR_4.trans (congrArg (fun z9 => gR sw st (pwF fa (shA sw st b r sc fi mi fa T) i) (pwF sc (shS sw st b r sc fi mi fa T) (i + 1)) z9 (pwF mi (shM sw st b r sc fi mi fa T) i)) (pwF_e (by simp [shF, shq, shQ, two_ne, z_ne2, c1, c8])))))) rfl ?_
      refine z_iload (n := 50) hC dX3_pass_48 0 rfl rfl ?_
      refine z_if_ne (tgt := 60) (n := 53) hC dX3_pass_50 (by decide) rfl (fun c14 => ?_) (fun c14 => absurd (c8.symm.trans c14) (by decide))
      refine z_aload_n (n := 61) hC dX3_pass_60 rfl 1 rfl rfl ?_
      refine z_iconst (v := nI 2) (n := 62) hC dX3_pass_61 (by decide) rfl ?_
      refine z_dup2 (n := 63) hC dX3_pass_62 rfl rfl rfl ?_
      refine y_iald (v := fa i) (n := 64) hC 0 2 (MW.r (MW.pool i (by omega))) rfl rfl (by decide) (by decide) dX3_pass_63 (pwF_at (Nat.le_refl _)) rfl ?_
      refine z_iload (n := 66) hC dX3_pass_64 0 rfl rfl ?_
      refine z_iconst (v := nI 2) (n := 67) hC dX3_pass_66 (by decide) rfl ?_
      refine z_icmp_ne (tgt := 74) (n := 70) hC dX3_pass_67 (by decide) rfl (fun c15 => absurd c8 c15) (fun c15 => ?_)
      refine z_iconst (v := nI 1) (n := 71) hC dX3_pass_70 (by decide) rfl ?_
      refine z_goto (n := 75) hC dX3_pass_71 (by decide) ?_
      refine z_iadd (v := (fa i) + (nI 1)) (n := 76) hC dX3_pass_75 rfl rfl ?_
      refine y_iast (ws' := (wQ q tr go T) ++ (wF tr cJ 5 ra) ++ (wR ra cI b r) ++ (wF go cJ n ga) ++ (wG ga cI sw st (pwF fa (shA sw st b r sc fi mi fa T) (i + 1)) (pwF sc (shS sw st b r sc fi mi fa T) (i + 1)) (pwF fi (shF sw st b r sc fi mi fa T) (i + 1)) (pwF mi (shM sw st b r sc fi mi fa T) i) n)) (n := 77) hC 0 2 rfl rfl (by decide) (by decide) dX3_pass_76 rfl (PW.r (PW.pool i (by omega) (gR_2.trans (congrArg (fun z9 => gR sw st z9 (pwF sc (shS sw st b r sc fi mi fa T) (i + 1)) (pwF fi (shF sw st b r sc fi mi fa T) (i + 1)) (pwF mi (shM sw st b r sc fi mi fa T) i)) (pwF_e (by simp [shA, shq, shQ, two_ne, z_ne2, c1, c8])))))) rfl ?_
      refine z_iload_n (n := 78) hC dX3_pass_77 rfl 3 rfl rfl ?_
      refine z_iload (n := 80) hC dX3_pass_78 0 rfl rfl ?_
      refine z_if_ne (tgt := 87) (n := 83) hC dX3_pass_80 (by decide) rfl (fun c16 => ?_) (fun c16 => absurd (c8.symm.trans c16) (by decide))
      refine z_iconst (v := nI 0) (n := 88) hC dX3_pass_87 (by decide) rfl ?_
      refine z_iadd (v := nI (ctF (msB sw st b r fa T) i + 0)) (n := 89) hC dX3_pass_88 (nI_add (ctF (msB sw st b r fa T) i) 0) rfl ?_
      refine z_istore_n (lv' := [(1, .int (nI (ctF (msB sw st b r fa T) i + 0))), (4, .int (ouF (sw i) (st i) (fa i) (amF b r T i))), (3, .ref (ga i)), (0, .ref q), (2, .int (nI i))]) (n := 90) hC dX3_pass_89 rfl (by decide) rfl rfl ?_
      refine z_iinc (k0 := 4) (v := nI (i + 1)) (lv' := [(2, .int (nI (i + 1))), (1, .int (nI (ctF (msB sw st b r fa T) i + 0))), (4, .int (ouF (sw i) (st i) (fa i) (amF b r T i))), (3, .ref (ga i)), (0, .ref q)]) (n := 93) hC dX3_pass_90 rfl (nI_add i 1) (by decide) rfl rfl ?_
      refine z_goto (n := 4) hC dX3_pass_93 (by decide) ?_
      refine z_lv [4, 1, 0] (lv' := [(0, .ref q), (1, .int (nI (ctF (msB sw st b r fa T) i + 0))), (2, .int (nI (i + 1)))]) rfl ?_
      refine z_leq (lv' := [(0, .ref q), (1, .int (nI (ctF (msB sw st b r fa T) (i + 1)))), (2, .int (nI (i + 1)))]) (by simp [ctF, msB, two_ne, c1, c8]) ?_
      refine z_weq (ws' := (wQ q tr go T) ++ (wF tr cJ 5 ra) ++ (wR ra cI b r) ++ (wF go cJ n ga) ++ (wG ga cI sw st (pwF fa (shA sw st b r sc fi mi fa T) (i + 1)) (pwF sc (shS sw st b r sc fi mi fa T) (i + 1)) (pwF fi (shF sw st b r sc fi mi fa T) (i + 1)) (pwF mi (shM sw st b r sc fi mi fa T) (i + 1)) n)) (by rw [pwF_k (f := mi) (h := shM sw st b r sc fi mi fa T) (k := i) (by simp [shM, shq, shQ, two_ne, z_ne2, c1, c8])]) ?_
      exact ih (i + 1) (by omega) (by omega)

set_option maxRecDepth 100000 in
set_option maxHeartbeats 4000000 in
theorem k_X3_pass_ (l : Launch) (G : va_G) (cI cZ cJ : ClassId) (q : Nat) (tr : Nat) (go : Nat) (T : Nat) (ra : Nat → Nat) (b : Nat → Int32) (r : Nat → Int32) (ga : Nat → Nat) (sw : Nat → Int32) (st : Nat → Int32) (fa : Nat → Int32) (sc : Nat → Int32) (fi : Nat → Int32) (mi : Nat → Int32) (n : Nat) (k : Nat) (hn : n ≤ 6) (hT : T + k < 2 ^ 29) (hk : k ≤ 50) (hst : ∀ g, g < n → nI 1 ≤ st g) (hR5 : ∀ k, k < 5 → inN (r k) 45) (hfa : ∀ g, inN (fa g) (2 ^ 26)) : MI (Unit) l yX3_pass_ cX3_pass_ 4 4 92 G (tY cI cZ cJ) [.ref q, .int (nI k)] ((wQ q tr go T) ++ (wF tr cJ 5 ra) ++ (wR ra cI b r) ++ (wF go cJ n ga) ++ (wG ga cI sw st fa sc fi mi n)) (fun zr _ => zr = nI (msN sw st b r sc fi mi fa T n k)) (fun _ => (wQ q tr go (T + k)) ++ (wF tr cJ 5 ra) ++ (wR ra cI b r) ++ (wF go cJ n ga) ++ (wG ga cI sw st (pwF fa (plA sw st b r sc fi mi fa T k) n) (pwF sc (plS sw st b r sc fi mi fa T k) n) (pwF fi (plF sw st b r sc fi mi fa T k) n) (pwF mi (plM sw st b r sc fi mi fa T k) n) n)) 0 0 := by
  refine MI_of (by decide) (Nat.le_of_ble_eq_true rfl) [(0, .ref q), (1, .int (nI k))] rfl ?_
  intro p e s m below meth c hC hr hlocks hname
  have hC : Cx p s m _ c cX3_pass_ 4 RX3 G (tY cI cZ cJ) _ := hC
  refine z_iconst (v := nI 0) (n := 1) hC dX3_pass__0 (by decide) rfl ?_
  refine z_istore_n (lv' := [(2, .int (nI 0)), (0, .ref q), (1, .int (nI k))]) (n := 2) hC dX3_pass__1 rfl (by decide) rfl rfl ?_
  refine z_iconst (v := nI 0) (n := 3) hC dX3_pass__2 (by decide) rfl ?_
  refine z_istore_n (lv' := [(3, .int (nI 0)), (2, .int (nI 0)), (0, .ref q), (1, .int (nI k))]) (n := 4) hC dX3_pass__3 rfl (by decide) rfl rfl ?_
  refine z_lv [2, 3, 1, 0] (lv' := [(0, .ref q), (1, .int (nI k)), (2, .int (nI (msN sw st b r sc fi mi fa T n 0))), (3, .int (nI 0))]) rfl ?_
  refine z_weq (ws' := (wQ q tr go (T + 0)) ++ (wF tr cJ 5 ra) ++ (wR ra cI b r) ++ (wF go cJ n ga) ++ (wG ga cI sw st (pwF fa (plA sw st b r sc fi mi fa T 0) n) (pwF sc (plS sw st b r sc fi mi fa T 0) n) (pwF fi (plF sw st b r sc fi mi fa T 0) n) (pwF mi (plM sw st b r sc fi mi fa T 0) n) n)) (by rw [pl_0S, pl_0F, pl_0M, pl_0A, Nat.add_zero]) ?_
  refine z_loop k 0 (fun i => (wQ q tr go (T + i)) ++ (wF tr cJ 5 ra) ++ (wR ra cI b r) ++ (wF go cJ n ga) ++ (wG ga cI sw st (pwF fa (plA sw st b r sc fi mi fa T i) n) (pwF sc (plS sw st b r sc fi mi fa T i) n) (pwF fi (plF sw st b r sc fi mi fa T i) n) (pwF mi (plM sw st b r sc fi mi fa T i) n) n)) (fun i => [(0, .ref q), (1, .int (nI k)), (2, .int (nI (msN sw st b r sc fi mi fa T n i))), (3, .int (nI i))]) (by omega) rfl rfl (fun i hi0 hi1 ih => ?_)
  refine z_iload_n (n := 5) hC dX3_pass__4 rfl 3 rfl rfl ?_
  refine z_iload_n (n := 6) hC dX3_pass__5 rfl 1 rfl rfl ?_
  refine z_icmp_ge_n (tgt := 22) (n := 9) hC i k rfl rfl (by omega) (by omega) dX3_pass__6 (by decide) rfl (fun c1 => ?_) (fun c1 => ?_)
  · obtain rfl : k = i := by omega
    refine z_iload_n (n := 23) hC dX3_pass__22 rfl 2 rfl rfl ?_
    refine z_iret hC hr hlocks () ?_ rfl dX3_pass__23 (by omega) (by omega)
    rfl
  · refine z_iload_n (n := 10) hC dX3_pass__9 rfl 2 rfl rfl ?_
    refine z_aload_n (n := 11) hC dX3_pass__10 rfl 0 rfl rfl ?_
    refine y_callVi (R := { frames := 4, cells := 0, slots := 0, locals := 92 }) (cells := 0) (slots := 0) (n := 14) (rest := [.int (nI (msN sw st b r sc fi mi fa T n i))]) (As := []) hC (k_X3_pass l G cI cZ cJ q tr go (T + i) ra b r ga sw st (pwF fa (plA sw st b r sc fi mi fa T i) n) (pwF sc (plS sw st b r sc fi mi fa T i) n) (pwF fi (plF sw st b r sc fi mi fa T i) n) (pwF mi (plM sw st b r sc fi mi fa T i) n) n (by omega) (by omega) hst hR5 (fun g => inN_mono (pl_in hfa (by omega) g) (by omega))) kg_X3_41 kd_yX3_pass dX3_pass__11 ⟨Nat.le_of_ble_eq_true rfl, Nat.le_of_ble_eq_true rfl⟩ 0 rfl rfl rfl ([]) (catL_permN 5 [wQ q tr go (T + i), wF tr cJ 5 ra, wR ra cI b r, wF go cJ n ga, wG ga cI sw st (pwF fa (plA sw st b r sc fi mi fa T i) n) (pwF sc (plS sw st b r sc fi mi fa T i) n) (pwF fi (plF sw st b r sc fi mi fa T i) n) (pwF mi (plM sw st b r sc fi mi fa T i) n) n] [0, 1, 2, 3, 4] [] rfl [wQ q tr go (T + i), wF tr cJ 5 ra, wR ra cI b r, wF go cJ n ga, wG ga cI sw st (pwF fa (plA sw st b r sc fi mi fa T i) n) (pwF sc (plS sw st b r sc fi mi fa T i) n) (pwF fi (plF sw st b r sc fi mi fa T i) n) (pwF mi (plM sw st b r sc fi mi fa T i) n) n] [] rfl rfl (by decide)) rfl (Nat.le_of_ble_eq_true rfl) ⟨by show 0 + 0 ≤ 0; omega, by show 0 + 0 ≤ 0; omega⟩ (fun u2 => (wQ q tr go ((T + i) + 1)) ++ (wF tr cJ 5 ra) ++ (wR ra cI b r) ++ (wF go cJ n ga) ++ (wG ga cI sw st (pwF (pwF fa (plA sw st b r sc fi mi fa T i) n) (plA sw st b r (pwF sc (plS sw st b r sc fi mi fa T i) n) (pwF fi (plF sw st b r sc fi mi fa T i) n) (pwF mi (plM sw st b r sc fi mi fa T i) n) (pwF fa (plA sw st b r sc fi mi fa T i) n) (T + i) 1) n) (pwF (pwF sc (plS sw st b r sc fi mi fa T i) n) (plS sw st b r (pwF sc (plS sw st b r sc fi mi fa T i) n) (pwF fi (plF sw st b r sc fi mi fa T i) n) (pwF mi (plM sw st b r sc fi mi fa T i) n) (pwF fa (plA sw st b r sc fi mi fa T i) n) (T + i) 1) n) (pwF (pwF fi (plF sw st b r sc fi mi fa T i) n) (plF sw st b r (pwF sc (plS sw st b r sc fi mi fa T i) n) (pwF fi (plF sw st b r sc fi mi fa T i) n) (pwF mi (plM sw st b r sc fi mi fa T i) n) (pwF fa (plA sw st b r sc fi mi fa T i) n) (T + i) 1) n) (pwF (pwF mi (plM sw st b r sc fi mi fa T i) n) (plM sw st b r (pwF sc (plS sw st b r sc fi mi fa T i) n) (pwF fi (plF sw st b r sc fi mi fa T i) n) (pwF mi (plM sw st b r sc fi mi fa T i) n) (pwF fa (plA sw st b r sc fi mi fa T i) n) (T + i) 1) n) n)) (fun _ => []) (fun u2 => catL_back 5 [wQ q tr go ((T + i) + 1), wF tr cJ 5 ra, wR ra cI b r, wF go cJ n ga, wG ga cI sw st (pwF (pwF fa (plA sw st b r sc fi mi fa T i) n) (plA sw st b r (pwF sc (plS sw st b r sc fi mi fa T i) n) (pwF fi (plF sw st b r sc fi mi fa T i) n) (pwF mi (plM sw st b r sc fi mi fa T i) n) (pwF fa (plA sw st b r sc fi mi fa T i) n) (T + i) 1) n) (pwF (pwF sc (plS sw st b r sc fi mi fa T i) n) (plS sw st b r (pwF sc (plS sw st b r sc fi mi fa T i) n) (pwF fi (plF sw st b r sc fi mi fa T i) n) (pwF mi (plM sw st b r sc fi mi fa T i) n) (pwF fa (plA sw st b r sc fi mi fa T i) n) (T + i) 1) n) (pwF (pwF fi (plF sw st b r sc fi mi fa T i) n) (plF sw st b r (pwF sc (plS sw st b r sc fi mi fa T i) n) (pwF fi (plF sw st b r sc fi mi fa T i) n) (pwF mi (plM sw st b r sc fi mi fa T i) n) (pwF fa (plA sw st b r sc fi mi fa T i) n) (T + i) 1) n) (pwF (pwF mi (plM sw st b r sc fi mi fa T i) n) (plM sw st b r (pwF sc (plS sw st b r sc fi mi fa T i) n) (pwF fi (plF sw st b r sc fi mi fa T i) n) (pwF mi (plM sw st b r sc fi mi fa T i) n) (pwF fa (plA sw st b r sc fi mi fa T i) n) (T + i) 1) n) n] [0, 1, 2, 3, 4] [] rfl [wQ q tr go ((T + i) + 1), wF tr cJ 5 ra, wR ra cI b r, wF go cJ n ga, wG ga cI sw st (pwF (pwF fa (plA sw st b r sc fi mi fa T i) n) (plA sw st b r (pwF sc (plS sw st b r sc fi mi fa T i) n) (pwF fi (plF sw st b r sc fi mi fa T i) n) (pwF mi (plM sw st b r sc fi mi fa T i) n) (pwF fa (plA sw st b r sc fi mi fa T i) n) (T + i) 1) n) (pwF (pwF sc (plS sw st b r sc fi mi fa T i) n) (plS sw st b r (pwF sc (plS sw st b r sc fi mi fa T i) n) (pwF fi (plF sw st b r sc fi mi fa T i) n) (pwF mi (plM sw st b r sc fi mi fa T i) n) (pwF fa (plA sw st b r sc fi mi fa T i) n) (T + i) 1) n) (pwF (pwF fi (plF sw st b r sc fi mi fa T i) n) (plF sw st b r (pwF sc (plS sw st b r sc fi mi fa T i) n) (pwF fi (plF sw st b r sc fi mi fa T i) n) (pwF mi (plM sw st b r sc fi mi fa T i) n) (pwF fa (plA sw st b r sc fi mi fa T i) n) (T + i) 1) n) (pwF (pwF mi (plM sw st b r sc fi mi fa T i) n) (plM sw st b r (pwF sc (plS sw st b r sc fi mi fa T i) n) (pwF fi (plF sw st b r sc fi mi fa T i) n) (pwF mi (plM sw st b r sc fi mi fa T i) n) (pwF fa (plA sw st b r sc fi mi fa T i) n) (T + i) 1) n) n] [] rfl rfl (by decide)) rfl rfl (fun r3 u2 h4 => ?_)
    subst h4
    refine z_weq (ws' := (wQ q tr go (T + (i + 1))) ++ (wF tr cJ 5 ra) ++ (wR ra cI b r) ++ (wF go cJ n ga) ++ (wG ga cI sw st (pwF fa (plA sw st b r sc fi mi fa T (i + 1)) n) (pwF sc (plS sw st b r sc fi mi fa T (i + 1)) n) (pwF fi (plF sw st b r sc fi mi fa T (i + 1)) n) (pwF mi (plM sw st b r sc fi mi fa T (i + 1)) n) n)) (by rw [pl_sS, pl_sF, pl_sM, pl_sA, Nat.add_assoc]) ?_
    refine z_iadd (v := nI (msN sw st b r sc fi mi fa T n i + ctF (msB sw st b r (pwF fa (plA sw st b r sc fi mi fa T i) n) (T + i)) n)) (n := 15) hC dX3_pass__14 (nI_add (msN sw st b r sc fi mi fa T n i) (ctF (msB sw st b r (pwF fa (plA sw st b r sc fi mi fa T i) n) (T + i)) n)) rfl ?_
    refine z_istore_n (lv' := [(2, .int (nI (msN sw st b r sc fi mi fa T n i + ctF (msB sw st b r (pwF fa (plA sw st b r sc fi mi fa T i) n) (T + i)) n))), (0, .ref q), (1, .int (nI k)), (3, .int (nI i))]) (n := 16) hC dX3_pass__15 rfl (by decide) rfl rfl ?_
    refine z_iinc (k0 := 3) (v := nI (i + 1)) (lv' := [(3, .int (nI (i + 1))), (2, .int (nI (msN sw st b r sc fi mi fa T n i + ctF (msB sw st b r (pwF fa (plA sw st b r sc fi mi fa T i) n) (T + i)) n))), (0, .ref q), (1, .int (nI k))]) (n := 19) hC dX3_pass__16 rfl (nI_add i 1) (by decide) rfl rfl ?_
    refine z_goto (n := 4) hC dX3_pass__19 (by decide) ?_
    refine z_lv [2, 3, 1, 0] (lv' := [(0, .ref q), (1, .int (nI k)), (2, .int (nI (msN sw st b r sc fi mi fa T n (i + 1)))), (3, .int (nI (i + 1)))]) rfl ?_
    refine z_weq (ws' := (wQ q tr go (T + i + 1)) ++ (wF tr cJ 5 ra) ++ (wR ra cI b r) ++ (wF go cJ n ga) ++ (wG ga cI sw st (pwF fa (plA sw st b r sc fi mi fa T (i + 1)) n) (pwF sc (plS sw st b r sc fi mi fa T (i + 1)) n) (pwF fi (plF sw st b r sc fi mi fa T (i + 1)) n) (pwF mi (plM sw st b r sc fi mi fa T (i + 1)) n) n)) (rfl) ?_
    exact ih (i + 1) (by omega) (by omega)

set_option maxRecDepth 100000 in
set_option maxHeartbeats 4000000 in
theorem k_X3_leader (l : Launch) (G : va_G) (cI cZ cJ : ClassId) (q : Nat) (tr : Nat) (go : Nat) (T : Nat) (ra : Nat → Nat) (b : Nat → Int32) (r : Nat → Int32) (ga : Nat → Nat) (sw : Nat → Int32) (st : Nat → Int32) (fa : Nat → Int32) (sc : Nat → Int32) (fi : Nat → Int32) (mi : Nat → Int32) (n : Nat) (hn : n ≤ 6) : MI (Unit) l yX3_leader cX3_leader 3 0 0 G (tY cI cZ cJ) [.ref q] ((wQ q tr go T) ++ (wF tr cJ 5 ra) ++ (wR ra cI b r) ++ (wF go cJ n ga) ++ (wG ga cI sw st fa sc fi mi n)) (fun zr _ => zr = ldF sc n) (fun _ => (wQ q tr go T) ++ (wF tr cJ 5 ra) ++ (wR ra cI b r) ++ (wF go cJ n ga) ++ (wG ga cI sw st fa sc fi mi n)) 0 0 := by
  refine MI_of (by decide) (Nat.le_of_ble_eq_true rfl) [(0, .ref q)] rfl ?_
  intro p e s m below meth c hC hr hlocks hname
  have hC : Cx p s m _ c cX3_leader 3 RX3 G (tY cI cZ cJ) _ := hC
  refine z_iconst (v := (-1)) (n := 1) hC dX3_leader_0 (by decide) rfl ?_
  refine z_istore_n (lv' := [(1, .int (-1)), (0, .ref q)]) (n := 2) hC dX3_leader_1 rfl (by decide) rfl rfl ?_
  refine z_aload_n (n := 3) hC dX3_leader_2 rfl 1 rfl rfl ?_
  refine gy_X3_15 (v := .ref go) (n := 6) hC (MW.l (MW.l (MW.l (MW.l (MW.at 0 rfl))))) rfl dX3_leader_3 rfl ?_
  refine y_alen (v := nI n) (n := 7) hC 2 (MW.l (MW.r (MW.at 0 rfl))) rfl rfl dX3_leader_6 rfl ?_
  refine z_iconst (v := nI 1) (n := 8) hC dX3_leader_7 (by decide) rfl ?_
  refine z_isub (v := nI n - nI 1) (n := 9) hC dX3_leader_8 rfl rfl ?_
  refine z_istore_n (lv' := [(2, .int (nI n - nI 1)), (1, .int (-1)), (0, .ref q)]) (n := 10) hC dX3_leader_9 rfl (by decide) rfl rfl ?_
  refine z_lv [2, 1, 0] (lv' := [(0, .ref q), (1, .int (-1)), (2, .int (nI n - nI 1))]) rfl ?_
  refine z_leq (lv' := [(0, .ref q), (1, .int (lbI sc n 0)), (2, .int (nI (n - 0) - nI 1))]) (by rw [lb_0 rfl, Nat.sub_zero]) ?_
  refine z_loop n 0 (fun i => (wQ q tr go T) ++ (wF tr cJ 5 ra) ++ (wR ra cI b r) ++ (wF go cJ n ga) ++ (wG ga cI sw st fa sc fi mi n)) (fun i => [(0, .ref q), (1, .int (lbI sc n i)), (2, .int (nI (n - i) - nI 1))]) (by omega) rfl rfl (fun i hi0 hi1 ih => ?_)
  refine z_iload_n (n := 11) hC dX3_leader_10 rfl 2 rfl rfl ?_
  rcases Nat.lt_or_ge i n with hin | hin
  · refine z_leq (lv' := [(0, .ref q), (1, .int (lbI sc n i)), (2, .int (nI (n - 1 - i)))]) (by rw [dn_at hin]) ?_
    refine z_top (y := nI (n - 1 - i)) (dn_at hin) ?_
    refine z_if_lt (tgt := 45) (n := 14) hC dX3_leader_11 (by decide) rfl (fun c1 => absurd c1 (nI_pos (by omega))) (fun c1 => ?_)
    rcases Nat.eq_zero_or_pos i with h0 | h0
    · refine z_leq (lv' := [(0, .ref q), (1, .int (-1)), (2, .int (nI (n - 1 - i)))]) (by rw [lb_0 h0]) ?_
      refine z_iload_n (n := 15) hC dX3_leader_14 rfl 1 rfl rfl ?_
      refine z_if_lt (tgt := 37) (n := 18) hC dX3_leader_15 (by decide) rfl (fun c2 => ?_) (fun c2 => absurd (by decide) c2)
      refine z_iload_n (n := 38) hC dX3_leader_37 rfl 2 rfl rfl ?_
      refine z_istore_n (lv' := [(1, .int (nI (n - 1 - i))), (0, .ref q), (2, .int (nI (n - 1 - i)))]) (n := 39) hC dX3_leader_38 rfl (by decide) rfl rfl ?_
      refine z_iinc (k0 := 2) (v := nI (n - 1 - i) + (-1)) (lv' := [(2, .int (nI (n - 1 - i) + (-1))), (1, .int (nI (n - 1 - i))), (0, .ref q)]) (n := 42) hC dX3_leader_39 rfl rfl (by decide) rfl rfl ?_
      refine z_goto (n := 10) hC dX3_leader_42 (by decide) ?_
      refine z_lv [2, 1, 0] (lv' := [(0, .ref q), (1, .int (nI (n - 1 - i))), (2, .int (nI (n - 1 - i) + (-1)))]) rfl ?_
      refine z_leq (lv' := [(0, .ref q), (1, .int (lbI sc n (i + 1))), (2, .int (nI (n - (i + 1)) - nI 1))]) (by rw [dn_next hin, lb_1 h0]) ?_
      exact ih (i + 1) (by omega) (by omega)
    · have hlb := (lbN_max sc n i h0 (by omega)).1
      refine z_leq (lv' := [(0, .ref q), (1, .int (nI (lbN sc n i))), (2, .int (nI (n - 1 - i)))]) (by rw [lb_p h0]) ?_
      refine z_iload_n (n := 15) hC dX3_leader_14 rfl 1 rfl rfl ?_
      refine z_if_lt (tgt := 37) (n := 18) hC dX3_leader_15 (by decide) rfl (fun c3 => absurd c3 (nI_pos (by omega))) (fun c3 => ?_)
      refine z_aload_n (n := 19) hC dX3_leader_18 rfl 0 rfl rfl ?_
      refine gy_X3_15 (v := .ref go) (n := 22) hC (MW.l (MW.l (MW.l (MW.l (MW.at 0 rfl))))) rfl dX3_leader_19 rfl ?_
      refine z_iload_n (n := 23) hC dX3_leader_22 rfl 2 rfl rfl ?_
      refine y_qald (v := ga (n - 1 - i)) (n := 24) hC 2 (n - 1 - i) (MW.l (MW.r (MW.at 0 rfl))) rfl rfl (by omega) (by omega) (rfF_at (by omega)) dX3_leader_23 rfl ?_
      refine z_iconst (v := nI 3) (n := 25) hC dX3_leader_24 (by decide) rfl ?_
      refine y_iald (v := sc (n - 1 - i)) (n := 26) hC 0 3 (MW.r (MW.pool (n - 1 - i) (by omega))) rfl rfl (by decide) (by decide) dX3_leader_25 rfl rfl ?_
      refine z_aload_n (n := 27) hC dX3_leader_26 rfl 0 rfl rfl ?_
      refine gy_X3_15 (v := .ref go) (n := 30) hC (MW.l (MW.l (MW.l (MW.l (MW.at 0 rfl))))) rfl dX3_leader_27 rfl ?_
      refine z_iload_n (n := 31) hC dX3_leader_30 rfl 1 rfl rfl ?_
      refine y_qald (v := ga (lbN sc n i)) (n := 32) hC 2 (lbN sc n i) (MW.l (MW.r (MW.at 0 rfl))) rfl rfl (by omega) (by omega) (rfF_at (by omega)) dX3_leader_31 rfl ?_
      refine z_iconst (v := nI 3) (n := 33) hC dX3_leader_32 (by decide) rfl ?_
      refine y_iald (v := sc (lbN sc n i)) (n := 34) hC 0 3 (MW.r (MW.pool (lbN sc n i) (by omega))) rfl rfl (by decide) (by decide) dX3_leader_33 rfl rfl ?_
      refine z_icmp_lt (tgt := 39) (n := 37) hC dX3_leader_34 (by decide) rfl (fun c4 => ?_) (fun c4 => ?_)
      · refine z_iinc (k0 := 2) (v := nI (n - 1 - i) + (-1)) (lv' := [(2, .int (nI (n - 1 - i) + (-1))), (0, .ref q), (1, .int (nI (lbN sc n i)))]) (n := 42) hC dX3_leader_39 rfl rfl (by decide) rfl rfl ?_
        refine z_goto (n := 10) hC dX3_leader_42 (by decide) ?_
        refine z_lv [1, 2, 0] (lv' := [(0, .ref q), (1, .int (nI (lbN sc n i))), (2, .int (nI (n - 1 - i) + (-1)))]) rfl ?_
        refine z_leq (lv' := [(0, .ref q), (1, .int (lbI sc n (i + 1))), (2, .int (nI (n - (i + 1)) - nI 1))]) (by rw [dn_next hin, lb_keep h0 (Int32.not_le.mpr c4)]) ?_
        exact ih (i + 1) (by omega) (by omega)
      · refine z_iload_n (n := 38) hC dX3_leader_37 rfl 2 rfl rfl ?_
        refine z_istore_n (lv' := [(1, .int (nI (n - 1 - i))), (0, .ref q), (2, .int (nI (n - 1 - i)))]) (n := 39) hC dX3_leader_38 rfl (by decide) rfl rfl ?_
        refine z_iinc (k0 := 2) (v := nI (n - 1 - i) + (-1)) (lv' := [(2, .int (nI (n - 1 - i) + (-1))), (1, .int (nI (n - 1 - i))), (0, .ref q)]) (n := 42) hC dX3_leader_39 rfl rfl (by decide) rfl rfl ?_
        refine z_goto (n := 10) hC dX3_leader_42 (by decide) ?_
        refine z_lv [2, 1, 0] (lv' := [(0, .ref q), (1, .int (nI (n - 1 - i))), (2, .int (nI (n - 1 - i) + (-1)))]) rfl ?_
        refine z_leq (lv' := [(0, .ref q), (1, .int (lbI sc n (i + 1))), (2, .int (nI (n - (i + 1)) - nI 1))]) (by rw [dn_next hin, lb_take (Int32.not_lt.mp c4)]) ?_
        exact ih (i + 1) (by omega) (by omega)
  · obtain rfl : n = i := by omega
    refine z_top (y := (-1)) dn_end ?_
    refine z_if_lt (tgt := 45) (n := 14) hC dX3_leader_11 (by decide) rfl (fun c5 => ?_) (fun c5 => absurd (by decide) c5)
    refine z_iload_n (n := 46) hC dX3_leader_45 rfl 1 rfl rfl ?_
    refine z_iret hC hr hlocks () ?_ rfl dX3_leader_46 (by omega) (by omega)
    exact lbI_n sc n

set_option maxRecDepth 100000 in
set_option maxHeartbeats 4000000 in
theorem k_X3_win (l : Launch) (G : va_G) (cI cZ cJ : ClassId) (q : Nat) (tr : Nat) (go : Nat) (T : Nat) (ra : Nat → Nat) (b : Nat → Int32) (r : Nat → Int32) (ga : Nat → Nat) (sw : Nat → Int32) (st : Nat → Int32) (fa : Nat → Int32) (sc : Nat → Int32) (fi : Nat → Int32) (mi : Nat → Int32) (n : Nat) (hn : n ≤ 6) (hn0 : 0 < n) (hst : ∀ g, g < n → nI 1 ≤ st g) : MI (Unit) l yX3_win cX3_win 7 1 22 G (tY cI cZ cJ) [.ref q] ((wQ q tr go T) ++ (wF tr cJ 5 ra) ++ (wR ra cI b r) ++ (wF go cJ n ga) ++ (wG ga cI sw st fa sc fi mi n)) (fun zr _ => zr = nI (wnF sw st sc fa n)) (fun _ => (wQ q tr go T) ++ (wF tr cJ 5 ra) ++ (wR ra cI b r) ++ (wF go cJ n ga) ++ (wG ga cI sw st (waF sw st sc fa n) sc fi mi n)) 12 72 := by
  refine MI_of (by decide) (Nat.le_of_ble_eq_true rfl) [(0, .ref q)] rfl ?_
  intro p e s m below meth c hC hr hlocks hname
  have hC : Cx p s m _ c cX3_win 7 RX3 G (tY cI cZ cJ) _ := hC
  refine z_aload_n (n := 1) hC dX3_win_0 rfl 0 rfl rfl ?_
  refine gy_X3_15 (v := .ref go) (n := 4) hC (MW.l (MW.l (MW.l (MW.l (MW.at 0 rfl))))) rfl dX3_win_1 rfl ?_
  refine y_alen (v := nI n) (n := 5) hC 2 (MW.l (MW.r (MW.at 0 rfl))) rfl rfl dX3_win_4 rfl ?_
  refine y_newaZ (n := 7) (ws2 := fun q1 => (wQ q tr go T) ++ (wF tr cJ 5 ra) ++ (wR ra cI b r) ++ (wF go cJ n ga) ++ (wG ga cI sw st fa sc fi mi n) ++ (wZ q1 cZ n (fun _ => false))) hC 1 n rfl q404 rfl (by omega) (by show 0 + 1 ≤ 12; omega) (by show 0 + n ≤ 72; omega) dX3_win_5 (fun _ => rfl) rfl (fun q1 => ?_)
  refine z_astore_n (lv' := [(1, .ref q1), (0, .ref q)]) (n := 8) hC dX3_win_7 rfl (by decide) rfl rfl ?_
  refine z_iconst (v := nI 0) (n := 9) hC dX3_win_8 (by decide) rfl ?_
  refine z_istore_n (lv' := [(2, .int (nI 0)), (1, .ref q1), (0, .ref q)]) (n := 10) hC dX3_win_9 rfl (by decide) rfl rfl ?_
  refine z_iconst (v := nI 0) (n := 11) hC dX3_win_10 (by decide) rfl ?_
  refine z_istore_n (lv' := [(3, .int (nI 0)), (2, .int (nI 0)), (1, .ref q1), (0, .ref q)]) (n := 12) hC dX3_win_11 rfl (by decide) rfl rfl ?_
  refine z_lv [3, 2, 1, 0] (lv' := [(0, .ref q), (1, .ref q1), (2, .int (nI (ctF (beB sc n) 0))), (3, .int (nI 0))]) rfl ?_
  refine z_weq (ws' := (wQ q tr go T) ++ (wF tr cJ 5 ra) ++ (wR ra cI b r) ++ (wF go cJ n ga) ++ (wG ga cI sw st fa sc fi mi n) ++ (wZ q1 cZ n (pwF (fun _ => false) (beB sc n) 0))) (by simp only [pwF_0]) ?_
  refine z_loop n 0 (fun i => (wQ q tr go T) ++ (wF tr cJ 5 ra) ++ (wR ra cI b r) ++ (wF go cJ n ga) ++ (wG ga cI sw st fa sc fi mi n) ++ (wZ q1 cZ n (pwF (fun _ => false) (beB sc n) i))) (fun i => [(0, .ref q), (1, .ref q1), (2, .int (nI (ctF (beB sc n) i))), (3, .int (nI i))]) (by omega) rfl rfl (fun i hi0 hi1 ih => ?_)
  have hct := ctF_le (beB sc n) i
  refine z_iload_n (n := 13) hC dX3_win_12 rfl 3 rfl rfl ?_
  refine z_aload_n (n := 14) hC dX3_win_13 rfl 0 rfl rfl ?_
  refine gy_X3_15 (v := .ref go) (n := 17) hC (MW.l (MW.l (MW.l (MW.l (MW.l (MW.at 0 rfl)))))) rfl dX3_win_14 rfl ?_
  refine y_alen (v := nI n) (n := 18) hC 2 (MW.l (MW.l (MW.r (MW.at 0 rfl)))) rfl rfl dX3_win_17 rfl ?_
  refine z_icmp_ge_n (tgt := 71) (n := 21) hC i n rfl rfl (by omega) (by omega) dX3_win_18 (by decide) rfl (fun c2 => ?_) (fun c2 => ?_)
  · obtain rfl : n = i := by omega
    refine z_iconst (v := nI 1) (n := 72) hC dX3_win_71 (by decide) rfl ?_
    refine z_istore_n (lv' := [(3, .int (nI 1)), (0, .ref q), (1, .ref q1), (2, .int (nI (ctF (beB sc n) n)))]) (n := 73) hC dX3_win_72 rfl (by decide) rfl rfl ?_
    refine z_lv [1, 2, 3, 0] (lv' := [(0, .ref q), (1, .ref q1), (2, .int (nI (ctF (beB sc n) n))), (3, .int (nI 1))]) rfl ?_
    refine z_loopS (σ := (Nat → Bool) × (Nat → Int32) × Nat) 10 1 (fun i u => soE sw st sc fa n i u.1 u.2.1) (fun i u => (wQ q tr go T) ++ (wF tr cJ 5 ra) ++ (wR ra cI b r) ++ (wF go cJ n ga) ++ (wG ga cI sw st u.2.1 sc fi mi n) ++ (wZ u.2.2 cZ n u.1)) (fun i u => [(0, .ref q), (1, .ref u.2.2), (2, .int (nI (ctF u.1 n))), (3, .int (nI i))]) (fun i => i) (fun i => 6 * i) (pwF (fun _ => false) (beB sc n) n, fa, q1) (by omega) (so_b0 (lf := pwF (fun _ => false) (beB sc n) n) (fun g hg => pwF_lt hg)) rfl (by rw [ctF_cong (h := pwF (fun _ => false) (beB sc n) n) (h' := beB sc n) (fun g hg => pwF_lt hg)]) (by omega) (by omega) (fun i u hi0 hi1 hu ih => ?_)
    have hcl := ctF_le u.1 n
    refine z_iload_n (n := 74) hC dX3_win_73 rfl 3 rfl rfl ?_
    refine z_bipush (v := nI 10) (n := 76) hC dX3_win_74 (by decide) rfl ?_
    refine z_icmp_ge_n (tgt := 222) (n := 79) hC i 10 rfl rfl (by omega) (by omega) dX3_win_76 (by decide) rfl (fun c3 => ?_) (fun c3 => ?_)
    · obtain rfl : 10 = i := by omega
      have hres := so_x10 hu
      refine z_iconst (v := nI 0) (n := 223) hC dX3_win_222 (by decide) rfl ?_
      refine z_istore_n (lv' := [(3, .int (nI 0)), (0, .ref q), (1, .ref u.2.2), (2, .int (nI (ctF u.1 n)))]) (n := 224) hC dX3_win_223 rfl (by decide) rfl rfl ?_
      obtain ⟨hw1, hw2⟩ := so_ex (sw := sw) (st := st) (sc := sc) (fa := fa) hn0 hres.1
      have hfa9 := hres.2
      refine z_weq (ws' := (wQ q tr go T) ++ (wF tr cJ 5 ra) ++ (wR ra cI b r) ++ (wF go cJ n ga) ++ (wG ga cI sw st (waF sw st sc fa n) sc fi mi n) ++ (wZ u.2.2 cZ n u.1)) (by rw [← hfa9]) ?_
      refine z_lv [1, 2, 0] (lv' := [(0, .ref q), (1, .ref u.2.2), (3, .int (nI 0))]) rfl ?_
      refine z_loopS (σ := Unit) n 0 (fun j v => ∀ g, g < j → u.1 g = false) (fun j v => (wQ q tr go T) ++ (wF tr cJ 5 ra) ++ (wR ra cI b r) ++ (wF go cJ n ga) ++ (wG ga cI sw st (waF sw st sc fa n) sc fi mi n) ++ (wZ u.2.2 cZ n u.1)) (fun j v => [(0, .ref q), (1, .ref u.2.2), (3, .int (nI j))]) (fun _ => 10) (fun _ => 6 * 10) () (by omega) (fun g hg => absurd hg (Nat.not_lt_zero g)) rfl rfl (Nat.le_refl _) (Nat.le_refl _) (fun j v hi0j hi1j huj ihj => ?_)
      have hj9 := so_in hw1 hw2 huj
      refine z_aload_n (n := 225) hC dX3_win_224 rfl 1 rfl rfl ?_
      refine z_iload_n (n := 226) hC dX3_win_225 rfl 2 rfl rfl ?_
      refine y_zald (v := bN (u.1 j)) (n := 227) hC 1 j (MW.r (MW.at 0 rfl)) rfl rfl (by omega) (by omega) dX3_win_226 rfl rfl ?_
      refine z_if_ne_b (tgt := 236) (n := 230) hC (u.1 j) rfl dX3_win_227 (by decide) rfl (fun c4 => ?_) (fun c4 => ?_)
      · refine z_iload_n (n := 237) hC dX3_win_236 rfl 2 rfl rfl ?_
        refine y_perm (ws' := (wQ q tr go T) ++ (wF tr cJ 5 ra) ++ (wR ra cI b r) ++ (wF go cJ n ga) ++ (wG ga cI sw st (waF sw st sc fa n) sc fi mi n)) (wZ u.2.2 cZ n u.1) (catL_permN 6 [wQ q tr go T, wF tr cJ 5 ra, wR ra cI b r, wF go cJ n ga, wG ga cI sw st (waF sw st sc fa n) sc fi mi n, wZ u.2.2 cZ n u.1] [0, 1, 2, 3, 4] [5] rfl [wQ q tr go T, wF tr cJ 5 ra, wR ra cI b r, wF go cJ n ga, wG ga cI sw st (waF sw st sc fa n) sc fi mi n] [wZ u.2.2 cZ n u.1] rfl rfl (by decide)) ?_
        refine z_iret hC hr hlocks () ?_ rfl dX3_win_237 (by omega) (by omega)
        exact so_win hres.1 (by omega) huj c4
      · refine z_iinc (k0 := 2) (v := nI (j + 1)) (lv' := [(3, .int (nI (j + 1))), (0, .ref q), (1, .ref u.2.2)]) (n := 233) hC dX3_win_230 rfl (nI_add j 1) (by decide) rfl rfl ?_
        refine z_goto (n := 224) hC dX3_win_233 (by decide) ?_
        refine z_lv [1, 2, 0] (lv' := [(0, .ref q), (1, .ref u.2.2), (3, .int (nI (j + 1)))]) rfl ?_
        exact ihj (j + 1) () (by omega) (by omega) (no_step huj c4)
    · refine z_iload_n (n := 80) hC dX3_win_79 rfl 2 rfl rfl ?_
      refine z_iconst (v := nI 1) (n := 81) hC dX3_win_80 (by decide) rfl ?_
      refine z_icmp_le_n (tgt := 222) (n := 84) hC (ctF u.1 n) 1 rfl rfl (by omega) (by omega) dX3_win_81 (by decide) rfl (fun c5 => ?_) (fun c5 => ?_)
      · have hres := so_x1 (by omega) hu c5
        refine z_iconst (v := nI 0) (n := 223) hC dX3_win_222 (by decide) rfl ?_
        refine z_istore_n (lv' := [(3, .int (nI 0)), (0, .ref q), (1, .ref u.2.2), (2, .int (nI (ctF u.1 n)))]) (n := 224) hC dX3_win_223 rfl (by decide) rfl rfl ?_
        obtain ⟨hw1, hw2⟩ := so_ex (sw := sw) (st := st) (sc := sc) (fa := fa) hn0 hres.1
        have hfa9 := hres.2
        refine z_weq (ws' := (wQ q tr go T) ++ (wF tr cJ 5 ra) ++ (wR ra cI b r) ++ (wF go cJ n ga) ++ (wG ga cI sw st (waF sw st sc fa n) sc fi mi n) ++ (wZ u.2.2 cZ n u.1)) (by rw [← hfa9]) ?_
        refine z_lv [1, 2, 0] (lv' := [(0, .ref q), (1, .ref u.2.2), (3, .int (nI 0))]) rfl ?_
        refine z_loopS (σ := Unit) n 0 (fun j v => ∀ g, g < j → u.1 g = false) (fun j v => (wQ q tr go T) ++ (wF tr cJ 5 ra) ++ (wR ra cI b r) ++ (wF go cJ n ga) ++ (wG ga cI sw st (waF sw st sc fa n) sc fi mi n) ++ (wZ u.2.2 cZ n u.1)) (fun j v => [(0, .ref q), (1, .ref u.2.2), (3, .int (nI j))]) (fun _ => i) (fun _ => 6 * i) () (by omega) (fun g hg => absurd hg (Nat.not_lt_zero g)) rfl rfl (Nat.le_refl _) (Nat.le_refl _) (fun j v hi0j hi1j huj ihj => ?_)
        have hj9 := so_in hw1 hw2 huj
        refine z_aload_n (n := 225) hC dX3_win_224 rfl 1 rfl rfl ?_
        refine z_iload_n (n := 226) hC dX3_win_225 rfl 2 rfl rfl ?_
        refine y_zald (v := bN (u.1 j)) (n := 227) hC 1 j (MW.r (MW.at 0 rfl)) rfl rfl (by omega) (by omega) dX3_win_226 rfl rfl ?_
        refine z_if_ne_b (tgt := 236) (n := 230) hC (u.1 j) rfl dX3_win_227 (by decide) rfl (fun c6 => ?_) (fun c6 => ?_)
        · refine z_iload_n (n := 237) hC dX3_win_236 rfl 2 rfl rfl ?_
          refine y_perm (ws' := (wQ q tr go T) ++ (wF tr cJ 5 ra) ++ (wR ra cI b r) ++ (wF go cJ n ga) ++ (wG ga cI sw st (waF sw st sc fa n) sc fi mi n)) (wZ u.2.2 cZ n u.1) (catL_permN 6 [wQ q tr go T, wF tr cJ 5 ra, wR ra cI b r, wF go cJ n ga, wG ga cI sw st (waF sw st sc fa n) sc fi mi n, wZ u.2.2 cZ n u.1] [0, 1, 2, 3, 4] [5] rfl [wQ q tr go T, wF tr cJ 5 ra, wR ra cI b r, wF go cJ n ga, wG ga cI sw st (waF sw st sc fa n) sc fi mi n] [wZ u.2.2 cZ n u.1] rfl rfl (by decide)) ?_
          refine z_iret hC hr hlocks () ?_ rfl dX3_win_237 (by omega) (by omega)
          exact so_win hres.1 (by omega) huj c6
        · refine z_iinc (k0 := 2) (v := nI (j + 1)) (lv' := [(3, .int (nI (j + 1))), (0, .ref q), (1, .ref u.2.2)]) (n := 233) hC dX3_win_230 rfl (nI_add j 1) (by decide) rfl rfl ?_
          refine z_goto (n := 224) hC dX3_win_233 (by decide) ?_
          refine z_lv [1, 2, 0] (lv' := [(0, .ref q), (1, .ref u.2.2), (3, .int (nI (j + 1)))]) rfl ?_
          exact ihj (j + 1) () (by omega) (by omega) (no_step huj c6)
      · have hm1 := c5
        refine z_aload_n (n := 85) hC dX3_win_84 rfl 0 rfl rfl ?_
        refine gy_X3_15 (v := .ref go) (n := 88) hC (MW.l (MW.l (MW.l (MW.l (MW.l (MW.at 0 rfl)))))) rfl dX3_win_85 rfl ?_
        refine y_alen (v := nI n) (n := 89) hC 2 (MW.l (MW.l (MW.r (MW.at 0 rfl)))) rfl rfl dX3_win_88 rfl ?_
        refine y_newaZ (n := 91) (ws2 := fun q7 => (wQ q tr go T) ++ (wF tr cJ 5 ra) ++ (wR ra cI b r) ++ (wF go cJ n ga) ++ (wG ga cI sw st u.2.1 sc fi mi n) ++ (wZ u.2.2 cZ n u.1) ++ (wZ q7 cZ n (fun _ => false))) hC 1 n rfl q404 rfl (by omega) (by show i + 1 ≤ 12; omega) (by show 6 * i + n ≤ 72; omega) dX3_win_89 (fun _ => rfl) rfl (fun q7 => ?_)
        refine z_astore (lv' := [(4, .ref q7), (0, .ref q), (1, .ref u.2.2), (2, .int (nI (ctF u.1 n))), (3, .int (nI i))]) (n := 93) hC dX3_win_91 (by decide) rfl rfl ?_
        refine z_iconst (v := nI 0) (n := 94) hC dX3_win_93 (by decide) rfl ?_
        refine z_istore (lv' := [(5, .int (nI 0)), (4, .ref q7), (0, .ref q), (1, .ref u.2.2), (2, .int (nI (ctF u.1 n))), (3, .int (nI i))]) (n := 96) hC dX3_win_94 (by decide) rfl rfl ?_
        refine z_iconst (v := nI 0) (n := 97) hC dX3_win_96 (by decide) rfl ?_
        refine z_istore (lv' := [(6, .int (nI 0)), (5, .int (nI 0)), (4, .ref q7), (0, .ref q), (1, .ref u.2.2), (2, .int (nI (ctF u.1 n))), (3, .int (nI i))]) (n := 99) hC dX3_win_97 (by decide) rfl rfl ?_
        refine z_lv [3, 4, 5, 6, 2, 1, 0] (lv' := [(0, .ref q), (1, .ref u.2.2), (2, .int (nI (ctF u.1 n))), (3, .int (nI i)), (4, .ref q7), (5, .int (nI (ctF (htB sw st u.2.1 u.1 (nI (6 * i))) 0))), (6, .int (nI 0))]) rfl ?_
        refine z_weq (ws' := (wQ q tr go T) ++ (wF tr cJ 5 ra) ++ (wR ra cI b r) ++ (wF go cJ n ga) ++ (wG ga cI sw st (pwF u.2.1 (upA u.2.1 u.1) 0) sc fi mi n) ++ (wZ u.2.2 cZ n u.1) ++ (wZ q7 cZ n (pwF (fun _ => false) (htB sw st u.2.1 u.1 (nI (6 * i))) 0))) (by simp only [pwF_0]) ?_
        refine z_loop n 0 (fun j => (wQ q tr go T) ++ (wF tr cJ 5 ra) ++ (wR ra cI b r) ++ (wF go cJ n ga) ++ (wG ga cI sw st (pwF u.2.1 (upA u.2.1 u.1) j) sc fi mi n) ++ (wZ u.2.2 cZ n u.1) ++ (wZ q7 cZ n (pwF (fun _ => false) (htB sw st u.2.1 u.1 (nI (6 * i))) j))) (fun j => [(0, .ref q), (1, .ref u.2.2), (2, .int (nI (ctF u.1 n))), (3, .int (nI i)), (4, .ref q7), (5, .int (nI (ctF (htB sw st u.2.1 u.1 (nI (6 * i))) j))), (6, .int (nI j))]) (by omega) rfl rfl (fun j hi0j hi1j ihj => ?_)
        have hct2 := ctF_le (htB sw st u.2.1 u.1 (nI (6 * i))) j
        refine z_iload (n := 101) hC dX3_win_99 6 rfl rfl ?_
        refine z_aload_n (n := 102) hC dX3_win_101 rfl 0 rfl rfl ?_
        refine gy_X3_15 (v := .ref go) (n := 105) hC (MW.l (MW.l (MW.l (MW.l (MW.l (MW.l (MW.at 0 rfl))))))) rfl dX3_win_102 rfl ?_
        refine y_alen (v := nI n) (n := 106) hC 2 (MW.l (MW.l (MW.l (MW.r (MW.at 0 rfl))))) rfl rfl dX3_win_105 rfl ?_
        refine z_icmp_ge_n (tgt := 202) (n := 109) hC j n rfl rfl (by omega) (by omega) dX3_win_106 (by decide) rfl (fun c8 => ?_) (fun c8 => ?_)
        · obtain rfl : n = j := by omega
          refine z_iload (n := 204) hC dX3_win_202 5 rfl rfl ?_
          refine z_if_ne (tgt := 210) (n := 207) hC dX3_win_204 (by decide) rfl (fun c9 => ?_) (fun c9 => ?_)
          · have hz204 : ¬ ctF (htB sw st u.2.1 u.1 (nI (6 * i))) n = 0 := fun z => c9 (by rw [z]; exact nI_0)
            refine z_aload (n := 212) hC dX3_win_210 4 rfl rfl ?_
            refine z_astore_n (lv' := [(1, .ref q7), (0, .ref q), (2, .int (nI (ctF u.1 n))), (3, .int (nI i)), (4, .ref q7), (5, .int (nI (ctF (htB sw st u.2.1 u.1 (nI (6 * i))) n))), (6, .int (nI n))]) (n := 213) hC dX3_win_212 rfl (by decide) rfl rfl ?_
            refine z_iload (n := 215) hC dX3_win_213 5 rfl rfl ?_
            refine z_istore_n (lv' := [(2, .int (nI (ctF (htB sw st u.2.1 u.1 (nI (6 * i))) n))), (1, .ref q7), (0, .ref q), (3, .int (nI i)), (4, .ref q7), (5, .int (nI (ctF (htB sw st u.2.1 u.1 (nI (6 * i))) n))), (6, .int (nI n))]) (n := 216) hC dX3_win_215 rfl (by decide) rfl rfl ?_
            refine y_perm (ws' := (wQ q tr go T) ++ (wF tr cJ 5 ra) ++ (wR ra cI b r) ++ (wF go cJ n ga) ++ (wG ga cI sw st (pwF u.2.1 (upA u.2.1 u.1) n) sc fi mi n) ++ (wZ q7 cZ n (pwF (fun _ => false) (htB sw st u.2.1 u.1 (nI (6 * i))) n))) (wZ u.2.2 cZ n u.1) (catL_permN 7 [wQ q tr go T, wF tr cJ 5 ra, wR ra cI b r, wF go cJ n ga, wG ga cI sw st (pwF u.2.1 (upA u.2.1 u.1) n) sc fi mi n, wZ u.2.2 cZ n u.1, wZ q7 cZ n (pwF (fun _ => false) (htB sw st u.2.1 u.1 (nI (6 * i))) n)] [0, 1, 2, 3, 4, 6] [5] rfl [wQ q tr go T, wF tr cJ 5 ra, wR ra cI b r, wF go cJ n ga, wG ga cI sw st (pwF u.2.1 (upA u.2.1 u.1) n) sc fi mi n, wZ q7 cZ n (pwF (fun _ => false) (htB sw st u.2.1 u.1 (nI (6 * i))) n)] [wZ u.2.2 cZ n u.1] rfl rfl (by decide)) ?_
            refine z_iinc (k0 := 3) (v := nI (i + 1)) (lv' := [(3, .int (nI (i + 1))), (2, .int (nI (ctF (htB sw st u.2.1 u.1 (nI (6 * i))) n))), (1, .ref q7), (0, .ref q), (4, .ref q7), (5, .int (nI (ctF (htB sw st u.2.1 u.1 (nI (6 * i))) n))), (6, .int (nI n))]) (n := 219) hC dX3_win_216 rfl (nI_add i 1) (by decide) rfl rfl ?_
            refine z_goto (n := 73) hC dX3_win_219 (by decide) ?_
            refine z_lv [3, 2, 1, 0] (lv' := [(0, .ref q), (1, .ref q7), (2, .int (nI (ctF (htB sw st u.2.1 u.1 (nI (6 * i))) n))), (3, .int (nI (i + 1)))]) rfl ?_
            refine z_leq (lv' := [(0, .ref q), (1, .ref ((pwF (fun _ => false) (htB sw st u.2.1 u.1 (nI (6 * i))) n, pwF u.2.1 (upA u.2.1 u.1) n, q7).2.2)), (2, .int (nI (ctF (pwF (fun _ => false) (htB sw st u.2.1 u.1 (nI (6 * i))) n, pwF u.2.1 (upA u.2.1 u.1) n, q7).1 n))), (3, .int (nI (i + 1)))]) (by rw [ctF_cong (h := pwF (fun _ => false) (htB sw st u.2.1 u.1 (nI (6 * i))) n) (h' := htB sw st u.2.1 u.1 (nI (6 * i))) (fun g hg => pwF_lt hg)]) ?_
            refine z_weq (ws' := (wQ q tr go T) ++ (wF tr cJ 5 ra) ++ (wR ra cI b r) ++ (wF go cJ n ga) ++ (wG ga cI sw st ((pwF (fun _ => false) (htB sw st u.2.1 u.1 (nI (6 * i))) n, pwF u.2.1 (upA u.2.1 u.1) n, q7).2.1) sc fi mi n) ++ (wZ ((pwF (fun _ => false) (htB sw st u.2.1 u.1 (nI (6 * i))) n, pwF u.2.1 (upA u.2.1 u.1) n, q7).2.2) cZ n ((pwF (fun _ => false) (htB sw st u.2.1 u.1 (nI (6 * i))) n, pwF u.2.1 (upA u.2.1 u.1) n, q7).1))) (rfl) ?_
            refine z_widen (k1 := (i + 1)) (k2 := (6 * (i + 1))) (by omega) (by omega) ?_
            exact ih (i + 1) (pwF (fun _ => false) (htB sw st u.2.1 u.1 (nI (6 * i))) n, pwF u.2.1 (upA u.2.1 u.1) n, q7) (by omega) (by omega) (so_n1 (by omega) hu hm1 hz204)
          · have hz204 : ctF (htB sw st u.2.1 u.1 (nI (6 * i))) n = 0 := (nI_eq (by have := ctF_le (htB sw st u.2.1 u.1 (nI (6 * i))) n; omega) (by omega)).mp (c9.trans nI_0.symm)
            refine z_goto (n := 216) hC dX3_win_207 (by decide) ?_
            refine y_perm (ws' := (wQ q tr go T) ++ (wF tr cJ 5 ra) ++ (wR ra cI b r) ++ (wF go cJ n ga) ++ (wG ga cI sw st (pwF u.2.1 (upA u.2.1 u.1) n) sc fi mi n) ++ (wZ u.2.2 cZ n u.1)) (wZ q7 cZ n (pwF (fun _ => false) (htB sw st u.2.1 u.1 (nI (6 * i))) n)) (catL_permN 7 [wQ q tr go T, wF tr cJ 5 ra, wR ra cI b r, wF go cJ n ga, wG ga cI sw st (pwF u.2.1 (upA u.2.1 u.1) n) sc fi mi n, wZ u.2.2 cZ n u.1, wZ q7 cZ n (pwF (fun _ => false) (htB sw st u.2.1 u.1 (nI (6 * i))) n)] [0, 1, 2, 3, 4, 5] [6] rfl [wQ q tr go T, wF tr cJ 5 ra, wR ra cI b r, wF go cJ n ga, wG ga cI sw st (pwF u.2.1 (upA u.2.1 u.1) n) sc fi mi n, wZ u.2.2 cZ n u.1] [wZ q7 cZ n (pwF (fun _ => false) (htB sw st u.2.1 u.1 (nI (6 * i))) n)] rfl rfl (by decide)) ?_
            refine z_iinc (k0 := 3) (v := nI (i + 1)) (lv' := [(3, .int (nI (i + 1))), (0, .ref q), (1, .ref u.2.2), (2, .int (nI (ctF u.1 n))), (4, .ref q7), (5, .int (nI (ctF (htB sw st u.2.1 u.1 (nI (6 * i))) n))), (6, .int (nI n))]) (n := 219) hC dX3_win_216 rfl (nI_add i 1) (by decide) rfl rfl ?_
            refine z_goto (n := 73) hC dX3_win_219 (by decide) ?_
            refine z_lv [1, 2, 3, 0] (lv' := [(0, .ref q), (1, .ref ((u.1, pwF u.2.1 (upA u.2.1 u.1) n, u.2.2).2.2)), (2, .int (nI (ctF (u.1, pwF u.2.1 (upA u.2.1 u.1) n, u.2.2).1 n))), (3, .int (nI (i + 1)))]) rfl ?_
            refine z_weq (ws' := (wQ q tr go T) ++ (wF tr cJ 5 ra) ++ (wR ra cI b r) ++ (wF go cJ n ga) ++ (wG ga cI sw st ((u.1, pwF u.2.1 (upA u.2.1 u.1) n, u.2.2).2.1) sc fi mi n) ++ (wZ ((u.1, pwF u.2.1 (upA u.2.1 u.1) n, u.2.2).2.2) cZ n ((u.1, pwF u.2.1 (upA u.2.1 u.1) n, u.2.2).1))) (rfl) ?_
            refine z_widen (k1 := (i + 1)) (k2 := (6 * (i + 1))) (by omega) (by omega) ?_
            exact ih (i + 1) (u.1, pwF u.2.1 (upA u.2.1 u.1) n, u.2.2) (by omega) (by omega) (so_n0 (by omega) hu hm1 hz204)
        · refine z_aload_n (n := 110) hC dX3_win_109 rfl 1 rfl rfl ?_
          refine z_iload (n := 112) hC dX3_win_110 6 rfl rfl ?_
          refine y_zald (v := bN (u.1 j)) (n := 113) hC 1 j (MW.l (MW.r (MW.at 0 rfl))) rfl rfl (by omega) (by omega) dX3_win_112 rfl rfl ?_
          refine z_if_ne_b (tgt := 119) (n := 116) hC (u.1 j) rfl dX3_win_113 (by decide) rfl (fun c10 => ?_) (fun c10 => ?_)
          · refine z_aload (n := 121) hC dX3_win_119 4 rfl rfl ?_
            refine z_iload (n := 123) hC dX3_win_121 6 rfl rfl ?_
            refine z_bipush (v := nI 6) (n := 125) hC dX3_win_123 (by decide) rfl ?_
            refine z_iload_n (n := 126) hC dX3_win_125 rfl 3 rfl rfl ?_
            refine z_imul (v := nI (6 * i)) (n := 127) hC dX3_win_126 (pk_mul 6 i) rfl ?_
            refine z_aload_n (n := 128) hC dX3_win_127 rfl 0 rfl rfl ?_
            refine gy_X3_15 (v := .ref go) (n := 131) hC (MW.l (MW.l (MW.l (MW.l (MW.l (MW.l (MW.at 0 rfl))))))) rfl dX3_win_128 rfl ?_
            refine z_iload (n := 133) hC dX3_win_131 6 rfl rfl ?_
            refine y_qald (v := ga j) (n := 134) hC 2 j (MW.l (MW.l (MW.l (MW.r (MW.at 0 rfl))))) rfl rfl (by omega) (by omega) (rfF_at (by omega)) dX3_win_133 rfl ?_
            refine z_iconst (v := nI 2) (n := 135) hC dX3_win_134 (by decide) rfl ?_
            refine y_iald (v := u.2.1 j) (n := 136) hC 0 2 (MW.l (MW.l (MW.r (MW.pool j (by omega))))) rfl rfl (by decide) (by decide) dX3_win_135 (pwF_at (Nat.le_refl _)) rfl ?_
            refine z_aload_n (n := 137) hC dX3_win_136 rfl 0 rfl rfl ?_
            refine gy_X3_15 (v := .ref go) (n := 140) hC (MW.l (MW.l (MW.l (MW.l (MW.l (MW.l (MW.at 0 rfl))))))) rfl dX3_win_137 rfl ?_
            refine z_iload (n := 142) hC dX3_win_140 6 rfl rfl ?_
            refine y_qald (v := ga j) (n := 143) hC 2 j (MW.l (MW.l (MW.l (MW.r (MW.at 0 rfl))))) rfl rfl (by omega) (by omega) (rfF_at (by omega)) dX3_win_142 rfl ?_
            refine z_iconst (v := nI 1) (n := 144) hC dX3_win_143 (by decide) rfl ?_
            refine y_iald (v := st j) (n := 145) hC 0 1 (MW.l (MW.l (MW.r (MW.pool j (by omega))))) rfl rfl (by decide) (by decide) dX3_win_144 rfl rfl ?_
            refine z_idiv (v := u.2.1 j / st j) (n := 146) hC dX3_win_145 (ne0_1 (hst j (by omega))) rfl rfl ?_
            refine z_iadd (v := (nI (6 * i)) + (u.2.1 j / st j)) (n := 147) hC dX3_win_146 rfl rfl ?_
            refine z_aload_n (n := 148) hC dX3_win_147 rfl 0 rfl rfl ?_
            refine gy_X3_15 (v := .ref go) (n := 151) hC (MW.l (MW.l (MW.l (MW.l (MW.l (MW.l (MW.at 0 rfl))))))) rfl dX3_win_148 rfl ?_
            refine z_iload (n := 153) hC dX3_win_151 6 rfl rfl ?_
            refine y_qald (v := ga j) (n := 154) hC 2 j (MW.l (MW.l (MW.l (MW.r (MW.at 0 rfl))))) rfl rfl (by omega) (by omega) (rfF_at (by omega)) dX3_win_153 rfl ?_
            refine z_iconst (v := nI 0) (n := 155) hC dX3_win_154 (by decide) rfl ?_
            refine y_iald (v := sw j) (n := 156) hC 0 0 (MW.l (MW.l (MW.r (MW.pool j (by omega))))) rfl rfl (by decide) (by decide) dX3_win_155 rfl rfl ?_
            refine z_icmp_gt (tgt := 163) (n := 159) hC dX3_win_156 (by decide) rfl (fun c11 => ?_) (fun c11 => ?_)
            · refine z_iconst (v := nI 0) (n := 164) hC dX3_win_163 (by decide) rfl ?_
              refine y_zast (ws' := (wQ q tr go T) ++ (wF tr cJ 5 ra) ++ (wR ra cI b r) ++ (wF go cJ n ga) ++ (wG ga cI sw st (pwF u.2.1 (upA u.2.1 u.1) j) sc fi mi n) ++ (wZ u.2.2 cZ n u.1) ++ (wZ q7 cZ n (pwF (fun _ => false) (htB sw st u.2.1 u.1 (nI (6 * i))) (j + 1)))) (n := 165) hC 1 j rfl rfl (by omega) (by omega) (nar_b (b := false)) dX3_win_164 (bI_pw (b := false) (by simp [htB, trF, hst j (by omega), c2, c3, c5, c8, c10, c11])) (PW.r (PW.at 0 rfl rfl)) rfl ?_
              refine z_iload (n := 167) hC dX3_win_165 5 rfl rfl ?_
              refine z_aload (n := 169) hC dX3_win_167 4 rfl rfl ?_
              refine z_iload (n := 171) hC dX3_win_169 6 rfl rfl ?_
              refine y_zald (v := bN ((htB sw st u.2.1 u.1 (nI (6 * i))) j)) (n := 172) hC 1 j (MW.r (MW.at 0 rfl)) rfl rfl (by omega) (by omega) dX3_win_171 (congrArg bN (pwF_lt (Nat.lt_succ_self _))) rfl ?_
              refine z_if_eq_b (tgt := 179) (n := 175) hC ((htB sw st u.2.1 u.1 (nI (6 * i))) j) rfl dX3_win_172 (by decide) rfl (fun c12 => ?_) (fun c12 => ?_)
              · refine z_iconst (v := nI 0) (n := 180) hC dX3_win_179 (by decide) rfl ?_
                refine z_iadd (v := nI (ctF (htB sw st u.2.1 u.1 (nI (6 * i))) j + 0)) (n := 181) hC dX3_win_180 (nI_add (ctF (htB sw st u.2.1 u.1 (nI (6 * i))) j) 0) rfl ?_
                refine z_istore (lv' := [(5, .int (nI (ctF (htB sw st u.2.1 u.1 (nI (6 * i))) j + 0))), (0, .ref q), (1, .ref u.2.2), (2, .int (nI (ctF u.1 n))), (3, .int (nI i)), (4, .ref q7), (6, .int (nI j))]) (n := 183) hC dX3_win_181 (by decide) rfl rfl ?_
                refine z_aload_n (n := 184) hC dX3_win_183 rfl 1 rfl rfl ?_
                refine gy_X3_15 (v := .ref go) (n := 187) hC (MW.l (MW.l (MW.l (MW.l (MW.l (MW.l (MW.at 0 rfl))))))) rfl dX3_win_184 rfl ?_
                refine z_iload (n := 189) hC dX3_win_187 6 rfl rfl ?_
                refine y_qald (v := ga j) (n := 190) hC 2 j (MW.l (MW.l (MW.l (MW.r (MW.at 0 rfl))))) rfl rfl (by omega) (by omega) (rfF_at (by omega)) dX3_win_189 rfl ?_
                refine z_iconst (v := nI 2) (n := 191) hC dX3_win_190 (by decide) rfl ?_
                refine z_dup2 (n := 192) hC dX3_win_191 rfl rfl rfl ?_
                refine y_iald (v := u.2.1 j) (n := 193) hC 0 2 (MW.l (MW.l (MW.r (MW.pool j (by omega))))) rfl rfl (by decide) (by decide) dX3_win_192 (pwF_at (Nat.le_refl _)) rfl ?_
                refine z_iconst (v := nI 1) (n := 194) hC dX3_win_193 (by decide) rfl ?_
                refine z_iadd (v := (u.2.1 j) + (nI 1)) (n := 195) hC dX3_win_194 rfl rfl ?_
                refine y_iast (ws' := (wQ q tr go T) ++ (wF tr cJ 5 ra) ++ (wR ra cI b r) ++ (wF go cJ n ga) ++ (wG ga cI sw st (pwF u.2.1 (upA u.2.1 u.1) (j + 1)) sc fi mi n) ++ (wZ u.2.2 cZ n u.1) ++ (wZ q7 cZ n (pwF (fun _ => false) (htB sw st u.2.1 u.1 (nI (6 * i))) (j + 1)))) (n := 196) hC 0 2 rfl rfl (by decide) (by decide) dX3_win_195 rfl (PW.l (PW.l (PW.r (PW.pool j (by omega) (gR_2.trans (congrArg (fun z9 => gR sw st z9 sc fi mi) (pwF_e (by simp [upA, c2, c3, c5, c8, c10, c11, c12])))))))) rfl ?_
                refine z_iinc (k0 := 6) (v := nI (j + 1)) (lv' := [(6, .int (nI (j + 1))), (5, .int (nI (ctF (htB sw st u.2.1 u.1 (nI (6 * i))) j + 0))), (0, .ref q), (1, .ref u.2.2), (2, .int (nI (ctF u.1 n))), (3, .int (nI i)), (4, .ref q7)]) (n := 199) hC dX3_win_196 rfl (nI_add j 1) (by decide) rfl rfl ?_
                refine z_goto (n := 99) hC dX3_win_199 (by decide) ?_
                refine z_lv [2, 3, 4, 5, 6, 1, 0] (lv' := [(0, .ref q), (1, .ref u.2.2), (2, .int (nI (ctF u.1 n))), (3, .int (nI i)), (4, .ref q7), (5, .int (nI (ctF (htB sw st u.2.1 u.1 (nI (6 * i))) j + 0))), (6, .int (nI (j + 1)))]) rfl ?_
                refine z_leq (lv' := [(0, .ref q), (1, .ref u.2.2), (2, .int (nI (ctF u.1 n))), (3, .int (nI i)), (4, .ref q7), (5, .int (nI (ctF (htB sw st u.2.1 u.1 (nI (6 * i))) (j + 1)))), (6, .int (nI (j + 1)))]) (by first | (simp [ctF, c2, c3, c5, c8, c10, c11, c12]; done) | (simp [ctF, htB, c2, c3, c5, c8, c10, c11, c12]; done)) ?_
                exact ihj (j + 1) (by omega) (by omega)
              · refine z_iconst (v := nI 1) (n := 176) hC dX3_win_175 (by decide) rfl ?_
                refine z_goto (n := 180) hC dX3_win_176 (by decide) ?_
                refine z_iadd (v := nI (ctF (htB sw st u.2.1 u.1 (nI (6 * i))) j + 1)) (n := 181) hC dX3_win_180 (nI_add (ctF (htB sw st u.2.1 u.1 (nI (6 * i))) j) 1) rfl ?_
                refine z_istore (lv' := [(5, .int (nI (ctF (htB sw st u.2.1 u.1 (nI (6 * i))) j + 1))), (0, .ref q), (1, .ref u.2.2), (2, .int (nI (ctF u.1 n))), (3, .int (nI i)), (4, .ref q7), (6, .int (nI j))]) (n := 183) hC dX3_win_181 (by decide) rfl rfl ?_
                refine z_aload_n (n := 184) hC dX3_win_183 rfl 1 rfl rfl ?_
                refine gy_X3_15 (v := .ref go) (n := 187) hC (MW.l (MW.l (MW.l (MW.l (MW.l (MW.l (MW.at 0 rfl))))))) rfl dX3_win_184 rfl ?_
                refine z_iload (n := 189) hC dX3_win_187 6 rfl rfl ?_
                refine y_qald (v := ga j) (n := 190) hC 2 j (MW.l (MW.l (MW.l (MW.r (MW.at 0 rfl))))) rfl rfl (by omega) (by omega) (rfF_at (by omega)) dX3_win_189 rfl ?_
                refine z_iconst (v := nI 2) (n := 191) hC dX3_win_190 (by decide) rfl ?_
                refine z_dup2 (n := 192) hC dX3_win_191 rfl rfl rfl ?_
                refine y_iald (v := u.2.1 j) (n := 193) hC 0 2 (MW.l (MW.l (MW.r (MW.pool j (by omega))))) rfl rfl (by decide) (by decide) dX3_win_192 (pwF_at (Nat.le_refl _)) rfl ?_
                refine z_iconst (v := nI 1) (n := 194) hC dX3_win_193 (by decide) rfl ?_
                refine z_iadd (v := (u.2.1 j) + (nI 1)) (n := 195) hC dX3_win_194 rfl rfl ?_
                refine y_iast (ws' := (wQ q tr go T) ++ (wF tr cJ 5 ra) ++ (wR ra cI b r) ++ (wF go cJ n ga) ++ (wG ga cI sw st (pwF u.2.1 (upA u.2.1 u.1) (j + 1)) sc fi mi n) ++ (wZ u.2.2 cZ n u.1) ++ (wZ q7 cZ n (pwF (fun _ => false) (htB sw st u.2.1 u.1 (nI (6 * i))) (j + 1)))) (n := 196) hC 0 2 rfl rfl (by decide) (by decide) dX3_win_195 rfl (PW.l (PW.l (PW.r (PW.pool j (by omega) (gR_2.trans (congrArg (fun z9 => gR sw st z9 sc fi mi) (pwF_e (by simp [upA, c2, c3, c5, c8, c10, c11, c12])))))))) rfl ?_
                refine z_iinc (k0 := 6) (v := nI (j + 1)) (lv' := [(6, .int (nI (j + 1))), (5, .int (nI (ctF (htB sw st u.2.1 u.1 (nI (6 * i))) j + 1))), (0, .ref q), (1, .ref u.2.2), (2, .int (nI (ctF u.1 n))), (3, .int (nI i)), (4, .ref q7)]) (n := 199) hC dX3_win_196 rfl (nI_add j 1) (by decide) rfl rfl ?_
                refine z_goto (n := 99) hC dX3_win_199 (by decide) ?_
                refine z_lv [2, 3, 4, 5, 6, 1, 0] (lv' := [(0, .ref q), (1, .ref u.2.2), (2, .int (nI (ctF u.1 n))), (3, .int (nI i)), (4, .ref q7), (5, .int (nI (ctF (htB sw st u.2.1 u.1 (nI (6 * i))) j + 1))), (6, .int (nI (j + 1)))]) rfl ?_
                refine z_leq (lv' := [(0, .ref q), (1, .ref u.2.2), (2, .int (nI (ctF u.1 n))), (3, .int (nI i)), (4, .ref q7), (5, .int (nI (ctF (htB sw st u.2.1 u.1 (nI (6 * i))) (j + 1)))), (6, .int (nI (j + 1)))]) (by first | (simp [ctF, c2, c3, c5, c8, c10, c11, c12]; done) | (simp [ctF, htB, c2, c3, c5, c8, c10, c11, c12]; done)) ?_
                exact ihj (j + 1) (by omega) (by omega)
            · refine z_iconst (v := nI 1) (n := 160) hC dX3_win_159 (by decide) rfl ?_
              refine z_goto (n := 164) hC dX3_win_160 (by decide) ?_
              refine y_zast (ws' := (wQ q tr go T) ++ (wF tr cJ 5 ra) ++ (wR ra cI b r) ++ (wF go cJ n ga) ++ (wG ga cI sw st (pwF u.2.1 (upA u.2.1 u.1) j) sc fi mi n) ++ (wZ u.2.2 cZ n u.1) ++ (wZ q7 cZ n (pwF (fun _ => false) (htB sw st u.2.1 u.1 (nI (6 * i))) (j + 1)))) (n := 165) hC 1 j rfl rfl (by omega) (by omega) (nar_b (b := true)) dX3_win_164 (bI_pw (b := true) (by simp [htB, trF, hst j (by omega), c2, c3, c5, c8, c10, c11])) (PW.r (PW.at 0 rfl rfl)) rfl ?_
              refine z_iload (n := 167) hC dX3_win_165 5 rfl rfl ?_
              refine z_aload (n := 169) hC dX3_win_167 4 rfl rfl ?_
              refine z_iload (n := 171) hC dX3_win_169 6 rfl rfl ?_
              refine y_zald (v := bN ((htB sw st u.2.1 u.1 (nI (6 * i))) j)) (n := 172) hC 1 j (MW.r (MW.at 0 rfl)) rfl rfl (by omega) (by omega) dX3_win_171 (congrArg bN (pwF_lt (Nat.lt_succ_self _))) rfl ?_
              refine z_if_eq_b (tgt := 179) (n := 175) hC ((htB sw st u.2.1 u.1 (nI (6 * i))) j) rfl dX3_win_172 (by decide) rfl (fun c13 => ?_) (fun c13 => ?_)
              · refine z_iconst (v := nI 0) (n := 180) hC dX3_win_179 (by decide) rfl ?_
                refine z_iadd (v := nI (ctF (htB sw st u.2.1 u.1 (nI (6 * i))) j + 0)) (n := 181) hC dX3_win_180 (nI_add (ctF (htB sw st u.2.1 u.1 (nI (6 * i))) j) 0) rfl ?_
                refine z_istore (lv' := [(5, .int (nI (ctF (htB sw st u.2.1 u.1 (nI (6 * i))) j + 0))), (0, .ref q), (1, .ref u.2.2), (2, .int (nI (ctF u.1 n))), (3, .int (nI i)), (4, .ref q7), (6, .int (nI j))]) (n := 183) hC dX3_win_181 (by decide) rfl rfl ?_
                refine z_aload_n (n := 184) hC dX3_win_183 rfl 1 rfl rfl ?_
                refine gy_X3_15 (v := .ref go) (n := 187) hC (MW.l (MW.l (MW.l (MW.l (MW.l (MW.l (MW.at 0 rfl))))))) rfl dX3_win_184 rfl ?_
                refine z_iload (n := 189) hC dX3_win_187 6 rfl rfl ?_
                refine y_qald (v := ga j) (n := 190) hC 2 j (MW.l (MW.l (MW.l (MW.r (MW.at 0 rfl))))) rfl rfl (by omega) (by omega) (rfF_at (by omega)) dX3_win_189 rfl ?_
                refine z_iconst (v := nI 2) (n := 191) hC dX3_win_190 (by decide) rfl ?_
                refine z_dup2 (n := 192) hC dX3_win_191 rfl rfl rfl ?_
                refine y_iald (v := u.2.1 j) (n := 193) hC 0 2 (MW.l (MW.l (MW.r (MW.pool j (by omega))))) rfl rfl (by decide) (by decide) dX3_win_192 (pwF_at (Nat.le_refl _)) rfl ?_
                refine z_iconst (v := nI 1) (n := 194) hC dX3_win_193 (by decide) rfl ?_
                refine z_iadd (v := (u.2.1 j) + (nI 1)) (n := 195) hC dX3_win_194 rfl rfl ?_
                refine y_iast (ws' := (wQ q tr go T) ++ (wF tr cJ 5 ra) ++ (wR ra cI b r) ++ (wF go cJ n ga) ++ (wG ga cI sw st (pwF u.2.1 (upA u.2.1 u.1) (j + 1)) sc fi mi n) ++ (wZ u.2.2 cZ n u.1) ++ (wZ q7 cZ n (pwF (fun _ => false) (htB sw st u.2.1 u.1 (nI (6 * i))) (j + 1)))) (n := 196) hC 0 2 rfl rfl (by decide) (by decide) dX3_win_195 rfl (PW.l (PW.l (PW.r (PW.pool j (by omega) (gR_2.trans (congrArg (fun z9 => gR sw st z9 sc fi mi) (pwF_e (by simp [upA, c2, c3, c5, c8, c10, c11, c13])))))))) rfl ?_
                refine z_iinc (k0 := 6) (v := nI (j + 1)) (lv' := [(6, .int (nI (j + 1))), (5, .int (nI (ctF (htB sw st u.2.1 u.1 (nI (6 * i))) j + 0))), (0, .ref q), (1, .ref u.2.2), (2, .int (nI (ctF u.1 n))), (3, .int (nI i)), (4, .ref q7)]) (n := 199) hC dX3_win_196 rfl (nI_add j 1) (by decide) rfl rfl ?_
                refine z_goto (n := 99) hC dX3_win_199 (by decide) ?_
                refine z_lv [2, 3, 4, 5, 6, 1, 0] (lv' := [(0, .ref q), (1, .ref u.2.2), (2, .int (nI (ctF u.1 n))), (3, .int (nI i)), (4, .ref q7), (5, .int (nI (ctF (htB sw st u.2.1 u.1 (nI (6 * i))) j + 0))), (6, .int (nI (j + 1)))]) rfl ?_
                refine z_leq (lv' := [(0, .ref q), (1, .ref u.2.2), (2, .int (nI (ctF u.1 n))), (3, .int (nI i)), (4, .ref q7), (5, .int (nI (ctF (htB sw st u.2.1 u.1 (nI (6 * i))) (j + 1)))), (6, .int (nI (j + 1)))]) (by first | (simp [ctF, c2, c3, c5, c8, c10, c11, c13]; done) | (simp [ctF, htB, c2, c3, c5, c8, c10, c11, c13]; done)) ?_
                exact ihj (j + 1) (by omega) (by omega)
              · refine z_iconst (v := nI 1) (n := 176) hC dX3_win_175 (by decide) rfl ?_
                refine z_goto (n := 180) hC dX3_win_176 (by decide) ?_
                refine z_iadd (v := nI (ctF (htB sw st u.2.1 u.1 (nI (6 * i))) j + 1)) (n := 181) hC dX3_win_180 (nI_add (ctF (htB sw st u.2.1 u.1 (nI (6 * i))) j) 1) rfl ?_
                refine z_istore (lv' := [(5, .int (nI (ctF (htB sw st u.2.1 u.1 (nI (6 * i))) j + 1))), (0, .ref q), (1, .ref u.2.2), (2, .int (nI (ctF u.1 n))), (3, .int (nI i)), (4, .ref q7), (6, .int (nI j))]) (n := 183) hC dX3_win_181 (by decide) rfl rfl ?_
                refine z_aload_n (n := 184) hC dX3_win_183 rfl 1 rfl rfl ?_
                refine gy_X3_15 (v := .ref go) (n := 187) hC (MW.l (MW.l (MW.l (MW.l (MW.l (MW.l (MW.at 0 rfl))))))) rfl dX3_win_184 rfl ?_
                refine z_iload (n := 189) hC dX3_win_187 6 rfl rfl ?_
                refine y_qald (v := ga j) (n := 190) hC 2 j (MW.l (MW.l (MW.l (MW.r (MW.at 0 rfl))))) rfl rfl (by omega) (by omega) (rfF_at (by omega)) dX3_win_189 rfl ?_
                refine z_iconst (v := nI 2) (n := 191) hC dX3_win_190 (by decide) rfl ?_
                refine z_dup2 (n := 192) hC dX3_win_191 rfl rfl rfl ?_
                refine y_iald (v := u.2.1 j) (n := 193) hC 0 2 (MW.l (MW.l (MW.r (MW.pool j (by omega))))) rfl rfl (by decide) (by decide) dX3_win_192 (pwF_at (Nat.le_refl _)) rfl ?_
                refine z_iconst (v := nI 1) (n := 194) hC dX3_win_193 (by decide) rfl ?_
                refine z_iadd (v := (u.2.1 j) + (nI 1)) (n := 195) hC dX3_win_194 rfl rfl ?_
                refine y_iast (ws' := (wQ q tr go T) ++ (wF tr cJ 5 ra) ++ (wR ra cI b r) ++ (wF go cJ n ga) ++ (wG ga cI sw st (pwF u.2.1 (upA u.2.1 u.1) (j + 1)) sc fi mi n) ++ (wZ u.2.2 cZ n u.1) ++ (wZ q7 cZ n (pwF (fun _ => false) (htB sw st u.2.1 u.1 (nI (6 * i))) (j + 1)))) (n := 196) hC 0 2 rfl rfl (by decide) (by decide) dX3_win_195 rfl (PW.l (PW.l (PW.r (PW.pool j (by omega) (gR_2.trans (congrArg (fun z9 => gR sw st z9 sc fi mi) (pwF_e (by simp [upA, c2, c3, c5, c8, c10, c11, c13])))))))) rfl ?_
                refine z_iinc (k0 := 6) (v := nI (j + 1)) (lv' := [(6, .int (nI (j + 1))), (5, .int (nI (ctF (htB sw st u.2.1 u.1 (nI (6 * i))) j + 1))), (0, .ref q), (1, .ref u.2.2), (2, .int (nI (ctF u.1 n))), (3, .int (nI i)), (4, .ref q7)]) (n := 199) hC dX3_win_196 rfl (nI_add j 1) (by decide) rfl rfl ?_
                refine z_goto (n := 99) hC dX3_win_199 (by decide) ?_
                refine z_lv [2, 3, 4, 5, 6, 1, 0] (lv' := [(0, .ref q), (1, .ref u.2.2), (2, .int (nI (ctF u.1 n))), (3, .int (nI i)), (4, .ref q7), (5, .int (nI (ctF (htB sw st u.2.1 u.1 (nI (6 * i))) j + 1))), (6, .int (nI (j + 1)))]) rfl ?_
                refine z_leq (lv' := [(0, .ref q), (1, .ref u.2.2), (2, .int (nI (ctF u.1 n))), (3, .int (nI i)), (4, .ref q7), (5, .int (nI (ctF (htB sw st u.2.1 u.1 (nI (6 * i))) (j + 1)))), (6, .int (nI (j + 1)))]) (by first | (simp [ctF, c2, c3, c5, c8, c10, c11, c13]; done) | (simp [ctF, htB, c2, c3, c5, c8, c10, c11, c13]; done)) ?_
                exact ihj (j + 1) (by omega) (by omega)
          · refine z_goto (n := 196) hC dX3_win_116 (by decide) ?_
            refine z_iinc (k0 := 6) (v := nI (j + 1)) (lv' := [(6, .int (nI (j + 1))), (0, .ref q), (1, .ref u.2.2), (2, .int (nI (ctF u.1 n))), (3, .int (nI i)), (4, .ref q7), (5, .int (nI (ctF (htB sw st u.2.1 u.1 (nI (6 * i))) j)))]) (n := 199) hC dX3_win_196 rfl (nI_add j 1) (by decide) rfl rfl ?_
            refine z_goto (n := 99) hC dX3_win_199 (by decide) ?_
            refine z_lv [1, 2, 3, 4, 5, 6, 0] (lv' := [(0, .ref q), (1, .ref u.2.2), (2, .int (nI (ctF u.1 n))), (3, .int (nI i)), (4, .ref q7), (5, .int (nI (ctF (htB sw st u.2.1 u.1 (nI (6 * i))) j))), (6, .int (nI (j + 1)))]) rfl ?_
            refine z_leq (lv' := [(0, .ref q), (1, .ref u.2.2), (2, .int (nI (ctF u.1 n))), (3, .int (nI i)), (4, .ref q7), (5, .int (nI (ctF (htB sw st u.2.1 u.1 (nI (6 * i))) (j + 1)))), (6, .int (nI (j + 1)))]) (by first | (simp [ctF, c2, c3, c5, c8, c10]; done) | (simp [ctF, htB, c2, c3, c5, c8, c10]; done)) ?_
            refine z_weq (ws' := (wQ q tr go T) ++ (wF tr cJ 5 ra) ++ (wR ra cI b r) ++ (wF go cJ n ga) ++ (wG ga cI sw st (pwF u.2.1 (upA u.2.1 u.1) (j + 1)) sc fi mi n) ++ (wZ u.2.2 cZ n u.1) ++ (wZ q7 cZ n (pwF (fun _ => false) (htB sw st u.2.1 u.1 (nI (6 * i))) (j + 1)))) (by rw [pwF_k (f := fun _ => false) (h := htB sw st u.2.1 u.1 (nI (6 * i))) (k := j) (by simp [htB, c2, c3, c5, c8, c10]), pwF_k (f := u.2.1) (h := upA u.2.1 u.1) (k := j) (by simp [upA, c2, c3, c5, c8, c10])]) ?_
            exact ihj (j + 1) (by omega) (by omega)
  · refine z_aload_n (n := 22) hC dX3_win_21 rfl 1 rfl rfl ?_
    refine z_iload_n (n := 23) hC dX3_win_22 rfl 3 rfl rfl ?_
    refine z_aload_n (n := 24) hC dX3_win_23 rfl 0 rfl rfl ?_
    refine gy_X3_15 (v := .ref go) (n := 27) hC (MW.l (MW.l (MW.l (MW.l (MW.l (MW.at 0 rfl)))))) rfl dX3_win_24 rfl ?_
    refine z_iload_n (n := 28) hC dX3_win_27 rfl 3 rfl rfl ?_
    refine y_qald (v := ga i) (n := 29) hC 2 i (MW.l (MW.l (MW.r (MW.at 0 rfl)))) rfl rfl (by omega) (by omega) (rfF_at (by omega)) dX3_win_28 rfl ?_
    refine z_iconst (v := nI 3) (n := 30) hC dX3_win_29 (by decide) rfl ?_
    refine y_iald (v := sc i) (n := 31) hC 0 3 (MW.l (MW.r (MW.pool i (by omega)))) rfl rfl (by decide) (by decide) dX3_win_30 rfl rfl ?_
    refine z_aload_n (n := 32) hC dX3_win_31 rfl 0 rfl rfl ?_
    refine gy_X3_15 (v := .ref go) (n := 35) hC (MW.l (MW.l (MW.l (MW.l (MW.l (MW.at 0 rfl)))))) rfl dX3_win_32 rfl ?_
    refine z_aload_n (n := 36) hC dX3_win_35 rfl 0 rfl rfl ?_
    refine y_callVi (R := { frames := 1, cells := 12, slots := 72, locals := 22 }) (cells := 0 + 1) (slots := 0 + n) (n := 39) (rest := [.ref go, .int (sc i), .int (nI i), .ref q1]) (As := []) hC (k_X3_leader l G cI cZ cJ q tr go T ra b r ga sw st fa sc fi mi n (by omega)) kg_X3_45 kd_yX3_leader dX3_win_36 ⟨Nat.le_of_ble_eq_true rfl, Nat.le_of_ble_eq_true rfl⟩ 0 rfl rfl rfl (wZ q1 cZ n (pwF (fun _ => false) (beB sc n) i)) (catL_permN 6 [wQ q tr go T, wF tr cJ 5 ra, wR ra cI b r, wF go cJ n ga, wG ga cI sw st fa sc fi mi n, wZ q1 cZ n (pwF (fun _ => false) (beB sc n) i)] [0, 1, 2, 3, 4] [5] rfl [wQ q tr go T, wF tr cJ 5 ra, wR ra cI b r, wF go cJ n ga, wG ga cI sw st fa sc fi mi n] [wZ q1 cZ n (pwF (fun _ => false) (beB sc n) i)] rfl rfl (by decide)) rfl (Nat.le_of_ble_eq_true rfl) ⟨by show 0 + 1 + 0 ≤ 12; omega, by show 0 + n + 0 ≤ 72; omega⟩ (fun u14 => (wQ q tr go T) ++ (wF tr cJ 5 ra) ++ (wR ra cI b r) ++ (wF go cJ n ga) ++ (wG ga cI sw st fa sc fi mi n) ++ (wZ q1 cZ n (pwF (fun _ => false) (beB sc n) i))) (fun _ => []) (fun u14 => catL_back 6 [wQ q tr go T, wF tr cJ 5 ra, wR ra cI b r, wF go cJ n ga, wG ga cI sw st fa sc fi mi n, wZ q1 cZ n (pwF (fun _ => false) (beB sc n) i)] [0, 1, 2, 3, 4] [5] rfl [wQ q tr go T, wF tr cJ 5 ra, wR ra cI b r, wF go cJ n ga, wG ga cI sw st fa sc fi mi n] [wZ q1 cZ n (pwF (fun _ => false) (beB sc n) i)] rfl rfl (by decide)) rfl rfl (fun r15 u14 h16 => ?_)
    subst h16
    refine z_top (y := nI (leF sc (n - 1))) (ldF_pos hn0) ?_
    have hle := leF_le sc (n - 1)
    refine y_qald (v := ga (leF sc (n - 1))) (n := 40) hC 2 (leF sc (n - 1)) (MW.l (MW.l (MW.r (MW.at 0 rfl)))) rfl rfl (by omega) (by omega) (rfF_at (by omega)) dX3_win_39 rfl ?_
    refine z_iconst (v := nI 3) (n := 41) hC dX3_win_40 (by decide) rfl ?_
    refine y_iald (v := sc (leF sc (n - 1))) (n := 42) hC 0 3 (MW.l (MW.r (MW.pool (leF sc (n - 1)) (by omega)))) rfl rfl (by decide) (by decide) dX3_win_41 rfl rfl ?_
    refine z_icmp_ne (tgt := 49) (n := 45) hC dX3_win_42 (by decide) rfl (fun c17 => ?_) (fun c17 => ?_)
    · refine z_iconst (v := nI 0) (n := 50) hC dX3_win_49 (by decide) rfl ?_
      refine y_zast (ws' := (wQ q tr go T) ++ (wF tr cJ 5 ra) ++ (wR ra cI b r) ++ (wF go cJ n ga) ++ (wG ga cI sw st fa sc fi mi n) ++ (wZ q1 cZ n (pwF (fun _ => false) (beB sc n) (i + 1)))) (n := 51) hC 1 i rfl rfl (by omega) (by omega) (nar_b (b := false)) dX3_win_50 (bI_pw (b := false) (by simp [beB, c2, c17])) (PW.r (PW.at 0 rfl rfl)) rfl ?_
      refine z_iload_n (n := 52) hC dX3_win_51 rfl 2 rfl rfl ?_
      refine z_aload_n (n := 53) hC dX3_win_52 rfl 1 rfl rfl ?_
      refine z_iload_n (n := 54) hC dX3_win_53 rfl 3 rfl rfl ?_
      refine y_zald (v := bN ((beB sc n) i)) (n := 55) hC 1 i (MW.r (MW.at 0 rfl)) rfl rfl (by omega) (by omega) dX3_win_54 (congrArg bN (pwF_lt (Nat.lt_succ_self _))) rfl ?_
      refine z_if_eq_b (tgt := 62) (n := 58) hC ((beB sc n) i) rfl dX3_win_55 (by decide) rfl (fun c18 => ?_) (fun c18 => ?_)
      · refine z_iconst (v := nI 0) (n := 63) hC dX3_win_62 (by decide) rfl ?_
        refine z_iadd (v := nI (ctF (beB sc n) i + 0)) (n := 64) hC dX3_win_63 (nI_add (ctF (beB sc n) i) 0) rfl ?_
        refine z_istore_n (lv' := [(2, .int (nI (ctF (beB sc n) i + 0))), (0, .ref q), (1, .ref q1), (3, .int (nI i))]) (n := 65) hC dX3_win_64 rfl (by decide) rfl rfl ?_
        refine z_iinc (k0 := 3) (v := nI (i + 1)) (lv' := [(3, .int (nI (i + 1))), (2, .int (nI (ctF (beB sc n) i + 0))), (0, .ref q), (1, .ref q1)]) (n := 68) hC dX3_win_65 rfl (nI_add i 1) (by decide) rfl rfl ?_
        refine z_goto (n := 12) hC dX3_win_68 (by decide) ?_
        refine z_lv [2, 3, 1, 0] (lv' := [(0, .ref q), (1, .ref q1), (2, .int (nI (ctF (beB sc n) i + 0))), (3, .int (nI (i + 1)))]) rfl ?_
        refine z_leq (lv' := [(0, .ref q), (1, .ref q1), (2, .int (nI (ctF (beB sc n) (i + 1)))), (3, .int (nI (i + 1)))]) (by simp [ctF, c2, c17, c18]) ?_
        exact ih (i + 1) (by omega) (by omega)
      · refine z_iconst (v := nI 1) (n := 59) hC dX3_win_58 (by decide) rfl ?_
        refine z_goto (n := 63) hC dX3_win_59 (by decide) ?_
        refine z_iadd (v := nI (ctF (beB sc n) i + 1)) (n := 64) hC dX3_win_63 (nI_add (ctF (beB sc n) i) 1) rfl ?_
        refine z_istore_n (lv' := [(2, .int (nI (ctF (beB sc n) i + 1))), (0, .ref q), (1, .ref q1), (3, .int (nI i))]) (n := 65) hC dX3_win_64 rfl (by decide) rfl rfl ?_
        refine z_iinc (k0 := 3) (v := nI (i + 1)) (lv' := [(3, .int (nI (i + 1))), (2, .int (nI (ctF (beB sc n) i + 1))), (0, .ref q), (1, .ref q1)]) (n := 68) hC dX3_win_65 rfl (nI_add i 1) (by decide) rfl rfl ?_
        refine z_goto (n := 12) hC dX3_win_68 (by decide) ?_
        refine z_lv [2, 3, 1, 0] (lv' := [(0, .ref q), (1, .ref q1), (2, .int (nI (ctF (beB sc n) i + 1))), (3, .int (nI (i + 1)))]) rfl ?_
        refine z_leq (lv' := [(0, .ref q), (1, .ref q1), (2, .int (nI (ctF (beB sc n) (i + 1)))), (3, .int (nI (i + 1)))]) (by simp [ctF, c2, c17, c18]) ?_
        exact ih (i + 1) (by omega) (by omega)
    · refine z_iconst (v := nI 1) (n := 46) hC dX3_win_45 (by decide) rfl ?_
      refine z_goto (n := 50) hC dX3_win_46 (by decide) ?_
      refine y_zast (ws' := (wQ q tr go T) ++ (wF tr cJ 5 ra) ++ (wR ra cI b r) ++ (wF go cJ n ga) ++ (wG ga cI sw st fa sc fi mi n) ++ (wZ q1 cZ n (pwF (fun _ => false) (beB sc n) (i + 1)))) (n := 51) hC 1 i rfl rfl (by omega) (by omega) (nar_b (b := true)) dX3_win_50 (bI_pw (b := true) (by simp [beB, c2, c17])) (PW.r (PW.at 0 rfl rfl)) rfl ?_
      refine z_iload_n (n := 52) hC dX3_win_51 rfl 2 rfl rfl ?_
      refine z_aload_n (n := 53) hC dX3_win_52 rfl 1 rfl rfl ?_
      refine z_iload_n (n := 54) hC dX3_win_53 rfl 3 rfl rfl ?_
      refine y_zald (v := bN ((beB sc n) i)) (n := 55) hC 1 i (MW.r (MW.at 0 rfl)) rfl rfl (by omega) (by omega) dX3_win_54 (congrArg bN (pwF_lt (Nat.lt_succ_self _))) rfl ?_
      refine z_if_eq_b (tgt := 62) (n := 58) hC ((beB sc n) i) rfl dX3_win_55 (by decide) rfl (fun c19 => ?_) (fun c19 => ?_)
      · refine z_iconst (v := nI 0) (n := 63) hC dX3_win_62 (by decide) rfl ?_
        refine z_iadd (v := nI (ctF (beB sc n) i + 0)) (n := 64) hC dX3_win_63 (nI_add (ctF (beB sc n) i) 0) rfl ?_
        refine z_istore_n (lv' := [(2, .int (nI (ctF (beB sc n) i + 0))), (0, .ref q), (1, .ref q1), (3, .int (nI i))]) (n := 65) hC dX3_win_64 rfl (by decide) rfl rfl ?_
        refine z_iinc (k0 := 3) (v := nI (i + 1)) (lv' := [(3, .int (nI (i + 1))), (2, .int (nI (ctF (beB sc n) i + 0))), (0, .ref q), (1, .ref q1)]) (n := 68) hC dX3_win_65 rfl (nI_add i 1) (by decide) rfl rfl ?_
        refine z_goto (n := 12) hC dX3_win_68 (by decide) ?_
        refine z_lv [2, 3, 1, 0] (lv' := [(0, .ref q), (1, .ref q1), (2, .int (nI (ctF (beB sc n) i + 0))), (3, .int (nI (i + 1)))]) rfl ?_
        refine z_leq (lv' := [(0, .ref q), (1, .ref q1), (2, .int (nI (ctF (beB sc n) (i + 1)))), (3, .int (nI (i + 1)))]) (by simp [ctF, c2, c17, c19]) ?_
        exact ih (i + 1) (by omega) (by omega)
      · refine z_iconst (v := nI 1) (n := 59) hC dX3_win_58 (by decide) rfl ?_
        refine z_goto (n := 63) hC dX3_win_59 (by decide) ?_
        refine z_iadd (v := nI (ctF (beB sc n) i + 1)) (n := 64) hC dX3_win_63 (nI_add (ctF (beB sc n) i) 1) rfl ?_
        refine z_istore_n (lv' := [(2, .int (nI (ctF (beB sc n) i + 1))), (0, .ref q), (1, .ref q1), (3, .int (nI i))]) (n := 65) hC dX3_win_64 rfl (by decide) rfl rfl ?_
        refine z_iinc (k0 := 3) (v := nI (i + 1)) (lv' := [(3, .int (nI (i + 1))), (2, .int (nI (ctF (beB sc n) i + 1))), (0, .ref q), (1, .ref q1)]) (n := 68) hC dX3_win_65 rfl (nI_add i 1) (by decide) rfl rfl ?_
        refine z_goto (n := 12) hC dX3_win_68 (by decide) ?_
        refine z_lv [2, 3, 1, 0] (lv' := [(0, .ref q), (1, .ref q1), (2, .int (nI (ctF (beB sc n) i + 1))), (3, .int (nI (i + 1)))]) rfl ?_
        refine z_leq (lv' := [(0, .ref q), (1, .ref q1), (2, .int (nI (ctF (beB sc n) (i + 1)))), (3, .int (nI (i + 1)))]) (by simp [ctF, c2, c17, c19]) ?_
        exact ih (i + 1) (by omega) (by omega)

set_option maxRecDepth 100000 in
set_option maxHeartbeats 4000000 in
theorem k_X3_init (l : Launch) (G : va_G) (cI cZ cJ : ClassId) (a : Nat)  : MV (Nat × Nat × (Nat → Nat) × (Nat → Nat)) l yX3_init cX3_init 1 1 20 G (tY cI cZ cJ) [.ref a] (wO1 a (.inr (3, [.int (nI 0), .null, .null]))) (fun _ => True) (fun zu => (wQ a zu.1 zu.2.1 0) ++ (wF zu.1 cJ 5 zu.2.2.1) ++ (wF zu.2.1 cJ 0 zu.2.2.2) ++ (wR zu.2.2.1 cI z0 sp0)) 7 15 := by
  refine MV_of (by decide) (Nat.le_of_ble_eq_true rfl) [(0, .ref a)] rfl ?_
  intro p e s m below meth c hC hr hlocks hname
  have hC : Cx p s m _ c cX3_init 1 RX3 G (tY cI cZ cJ) _ := hC
  refine z_aload_n (n := 1) hC dX3_init_0 rfl 0 rfl rfl ?_
  refine z_objI (n := 4) hC q291 q423 q424 dX3_init_1 (by decide) (by decide) (Nat.le_of_ble_eq_true rfl) rfl ?_
  refine z_aload_n (n := 5) hC dX3_init_4 rfl 0 rfl rfl ?_
  refine z_iconst (v := nI 5) (n := 6) hC dX3_init_5 (by decide) rfl ?_
  refine y_anew (n := 9) (ws2 := fun q1 => (wO1 a (.inr (3, [.int (nI 0), .null, .null]))) ++ (wO1 q1 (.inl (cJ, 5, .inr (.inr (.inr (.inr (fun _ => none)))))))) hC 2 5 rfl q413 rfl (by omega) (by show 0 + 1 ≤ 7; omega) (by show 0 + 5 ≤ 15; omega) dX3_init_6 (fun _ => rfl) rfl (fun q1 => ?_)
  refine z_weq (ws' := (wO1 a (.inr (3, [.int (nI 0), .null, .null]))) ++ (wFm q1 cJ 5 0 (fun _ => 0))) (by rw [rfF_0 (ad := (fun _ => 0))]) ?_
  refine z_dup (n := 10) hC dX3_init_9 rfl rfl ?_
  refine z_iconst (v := nI 0) (n := 11) hC dX3_init_10 (by decide) rfl ?_
  refine z_iconst (v := nI 2) (n := 12) hC dX3_init_11 (by decide) rfl ?_
  refine z_newaI (n := 14) (ws2 := fun q2 => (wO1 a (.inr (3, [.int (nI 0), .null, .null]))) ++ (wFm q1 cJ 5 0 (fun _ => 0)) ++ (wI q2 cI 2 (fun _ => nI 0))) hC 0 2 rfl q401 rfl (by omega) (by show 0 + 1 + 1 ≤ 7; omega) (by show 0 + 5 + 2 ≤ 15; omega) dX3_init_12 (fun _ => rfl) rfl (fun q2 => ?_)
  refine z_dup (n := 15) hC dX3_init_14 rfl rfl ?_
  refine z_iconst (v := nI 0) (n := 16) hC dX3_init_15 (by decide) rfl ?_
  refine z_iconst (v := nI 0) (n := 17) hC dX3_init_16 (by decide) rfl ?_
  refine y_iast (ws' := (wO1 a (.inr (3, [.int (nI 0), .null, .null]))) ++ (wFm q1 cJ 5 0 (fun _ => 0)) ++ (wI q2 cI 2 (upd (fun _ => nI 0) 0 (nI 0)))) (n := 18) hC 0 0 rfl rfl (by omega) (by omega) dX3_init_17 rfl (PW.r (PW.at 0 rfl rfl)) rfl ?_
  refine z_dup (n := 19) hC dX3_init_18 rfl rfl ?_
  refine z_iconst (v := nI 1) (n := 20) hC dX3_init_19 (by decide) rfl ?_
  refine z_bipush (v := nI 20) (n := 22) hC dX3_init_20 (by decide) rfl ?_
  refine y_iast (ws' := (wO1 a (.inr (3, [.int (nI 0), .null, .null]))) ++ (wFm q1 cJ 5 0 (fun _ => 0)) ++ (wI q2 cI 2 (upd (upd (fun _ => nI 0) 0 (nI 0)) 1 (nI 20)))) (n := 23) hC 0 1 rfl rfl (by omega) (by omega) dX3_init_22 rfl (PW.r (PW.at 0 rfl rfl)) rfl ?_
  refine y_qast (ws' := (wO1 a (.inr (3, [.int (nI 0), .null, .null]))) ++ (wFm q1 cJ 5 1 (updA (fun _ => 0) 0 q2)) ++ (wI q2 cI 2 (upd (upd (fun _ => nI 0) 0 (nI 0)) 1 (nI 20)))) (n := 24) hC 2 0 0 rfl rfl (MW.r (MW.at 0 rfl)) rfl (by omega) (by omega) rfF_put (PW.l (PW.r (PW.at 0 rfl rfl))) dX3_init_23 rfl ?_
  refine z_dup (n := 25) hC dX3_init_24 rfl rfl ?_
  refine z_iconst (v := nI 1) (n := 26) hC dX3_init_25 (by decide) rfl ?_
  refine z_iconst (v := nI 2) (n := 27) hC dX3_init_26 (by decide) rfl ?_
  refine z_newaI (n := 29) (ws2 := fun q3 => (wO1 a (.inr (3, [.int (nI 0), .null, .null]))) ++ (wFm q1 cJ 5 1 (updA (fun _ => 0) 0 q2)) ++ (wI q2 cI 2 (upd (upd (fun _ => nI 0) 0 (nI 0)) 1 (nI 20))) ++ (wI q3 cI 2 (fun _ => nI 0))) hC 0 2 rfl q401 rfl (by omega) (by show 0 + 1 + 1 + 1 ≤ 7; omega) (by show 0 + 5 + 2 + 2 ≤ 15; omega) dX3_init_27 (fun _ => rfl) rfl (fun q3 => ?_)
  refine z_dup (n := 30) hC dX3_init_29 rfl rfl ?_
  refine z_iconst (v := nI 0) (n := 31) hC dX3_init_30 (by decide) rfl ?_
  refine z_iconst (v := nI 0) (n := 32) hC dX3_init_31 (by decide) rfl ?_
  refine y_iast (ws' := (wO1 a (.inr (3, [.int (nI 0), .null, .null]))) ++ (wFm q1 cJ 5 1 (updA (fun _ => 0) 0 q2)) ++ (wI q2 cI 2 (upd (upd (fun _ => nI 0) 0 (nI 0)) 1 (nI 20))) ++ (wI q3 cI 2 (upd (fun _ => nI 0) 0 (nI 0)))) (n := 33) hC 0 0 rfl rfl (by omega) (by omega) dX3_init_32 rfl (PW.r (PW.at 0 rfl rfl)) rfl ?_
  refine z_dup (n := 34) hC dX3_init_33 rfl rfl ?_
  refine z_iconst (v := nI 1) (n := 35) hC dX3_init_34 (by decide) rfl ?_
  refine z_bipush (v := nI 20) (n := 37) hC dX3_init_35 (by decide) rfl ?_
  refine y_iast (ws' := (wO1 a (.inr (3, [.int (nI 0), .null, .null]))) ++ (wFm q1 cJ 5 1 (updA (fun _ => 0) 0 q2)) ++ (wI q2 cI 2 (upd (upd (fun _ => nI 0) 0 (nI 0)) 1 (nI 20))) ++ (wI q3 cI 2 (upd (upd (fun _ => nI 0) 0 (nI 0)) 1 (nI 20)))) (n := 38) hC 0 1 rfl rfl (by omega) (by omega) dX3_init_37 rfl (PW.r (PW.at 0 rfl rfl)) rfl ?_
  refine y_qast (ws' := (wO1 a (.inr (3, [.int (nI 0), .null, .null]))) ++ (wFm q1 cJ 5 2 (updA (updA (fun _ => 0) 0 q2) 1 q3)) ++ (wI q2 cI 2 (upd (upd (fun _ => nI 0) 0 (nI 0)) 1 (nI 20))) ++ (wI q3 cI 2 (upd (upd (fun _ => nI 0) 0 (nI 0)) 1 (nI 20)))) (n := 39) hC 2 0 1 rfl rfl (MW.r (MW.at 0 rfl)) rfl (by omega) (by omega) rfF_put (PW.l (PW.l (PW.r (PW.at 0 rfl rfl)))) dX3_init_38 rfl ?_
  refine z_dup (n := 40) hC dX3_init_39 rfl rfl ?_
  refine z_iconst (v := nI 2) (n := 41) hC dX3_init_40 (by decide) rfl ?_
  refine z_iconst (v := nI 2) (n := 42) hC dX3_init_41 (by decide) rfl ?_
  refine z_newaI (n := 44) (ws2 := fun q4 => (wO1 a (.inr (3, [.int (nI 0), .null, .null]))) ++ (wFm q1 cJ 5 2 (updA (updA (fun _ => 0) 0 q2) 1 q3)) ++ (wI q2 cI 2 (upd (upd (fun _ => nI 0) 0 (nI 0)) 1 (nI 20))) ++ (wI q3 cI 2 (upd (upd (fun _ => nI 0) 0 (nI 0)) 1 (nI 20))) ++ (wI q4 cI 2 (fun _ => nI 0))) hC 0 2 rfl q401 rfl (by omega) (by show 0 + 1 + 1 + 1 + 1 ≤ 7; omega) (by show 0 + 5 + 2 + 2 + 2 ≤ 15; omega) dX3_init_42 (fun _ => rfl) rfl (fun q4 => ?_)
  refine z_dup (n := 45) hC dX3_init_44 rfl rfl ?_
  refine z_iconst (v := nI 0) (n := 46) hC dX3_init_45 (by decide) rfl ?_
  refine z_iconst (v := nI 0) (n := 47) hC dX3_init_46 (by decide) rfl ?_
  refine y_iast (ws' := (wO1 a (.inr (3, [.int (nI 0), .null, .null]))) ++ (wFm q1 cJ 5 2 (updA (updA (fun _ => 0) 0 q2) 1 q3)) ++ (wI q2 cI 2 (upd (upd (fun _ => nI 0) 0 (nI 0)) 1 (nI 20))) ++ (wI q3 cI 2 (upd (upd (fun _ => nI 0) 0 (nI 0)) 1 (nI 20))) ++ (wI q4 cI 2 (upd (fun _ => nI 0) 0 (nI 0)))) (n := 48) hC 0 0 rfl rfl (by omega) (by omega) dX3_init_47 rfl (PW.r (PW.at 0 rfl rfl)) rfl ?_
  refine z_dup (n := 49) hC dX3_init_48 rfl rfl ?_
  refine z_iconst (v := nI 1) (n := 50) hC dX3_init_49 (by decide) rfl ?_
  refine z_bipush (v := nI 20) (n := 52) hC dX3_init_50 (by decide) rfl ?_
  refine y_iast (ws' := (wO1 a (.inr (3, [.int (nI 0), .null, .null]))) ++ (wFm q1 cJ 5 2 (updA (updA (fun _ => 0) 0 q2) 1 q3)) ++ (wI q2 cI 2 (upd (upd (fun _ => nI 0) 0 (nI 0)) 1 (nI 20))) ++ (wI q3 cI 2 (upd (upd (fun _ => nI 0) 0 (nI 0)) 1 (nI 20))) ++ (wI q4 cI 2 (upd (upd (fun _ => nI 0) 0 (nI 0)) 1 (nI 20)))) (n := 53) hC 0 1 rfl rfl (by omega) (by omega) dX3_init_52 rfl (PW.r (PW.at 0 rfl rfl)) rfl ?_
  refine y_qast (ws' := (wO1 a (.inr (3, [.int (nI 0), .null, .null]))) ++ (wFm q1 cJ 5 3 (updA (updA (updA (fun _ => 0) 0 q2) 1 q3) 2 q4)) ++ (wI q2 cI 2 (upd (upd (fun _ => nI 0) 0 (nI 0)) 1 (nI 20))) ++ (wI q3 cI 2 (upd (upd (fun _ => nI 0) 0 (nI 0)) 1 (nI 20))) ++ (wI q4 cI 2 (upd (upd (fun _ => nI 0) 0 (nI 0)) 1 (nI 20)))) (n := 54) hC 2 0 2 rfl rfl (MW.r (MW.at 0 rfl)) rfl (by omega) (by omega) rfF_put (PW.l (PW.l (PW.l (PW.r (PW.at 0 rfl rfl))))) dX3_init_53 rfl ?_
  refine z_dup (n := 55) hC dX3_init_54 rfl rfl ?_
  refine z_iconst (v := nI 3) (n := 56) hC dX3_init_55 (by decide) rfl ?_
  refine z_iconst (v := nI 2) (n := 57) hC dX3_init_56 (by decide) rfl ?_
  refine z_newaI (n := 59) (ws2 := fun q5 => (wO1 a (.inr (3, [.int (nI 0), .null, .null]))) ++ (wFm q1 cJ 5 3 (updA (updA (updA (fun _ => 0) 0 q2) 1 q3) 2 q4)) ++ (wI q2 cI 2 (upd (upd (fun _ => nI 0) 0 (nI 0)) 1 (nI 20))) ++ (wI q3 cI 2 (upd (upd (fun _ => nI 0) 0 (nI 0)) 1 (nI 20))) ++ (wI q4 cI 2 (upd (upd (fun _ => nI 0) 0 (nI 0)) 1 (nI 20))) ++ (wI q5 cI 2 (fun _ => nI 0))) hC 0 2 rfl q401 rfl (by omega) (by show 0 + 1 + 1 + 1 + 1 + 1 ≤ 7; omega) (by show 0 + 5 + 2 + 2 + 2 + 2 ≤ 15; omega) dX3_init_57 (fun _ => rfl) rfl (fun q5 => ?_)
  refine z_dup (n := 60) hC dX3_init_59 rfl rfl ?_
  refine z_iconst (v := nI 0) (n := 61) hC dX3_init_60 (by decide) rfl ?_
  refine z_iconst (v := nI 0) (n := 62) hC dX3_init_61 (by decide) rfl ?_
  refine y_iast (ws' := (wO1 a (.inr (3, [.int (nI 0), .null, .null]))) ++ (wFm q1 cJ 5 3 (updA (updA (updA (fun _ => 0) 0 q2) 1 q3) 2 q4)) ++ (wI q2 cI 2 (upd (upd (fun _ => nI 0) 0 (nI 0)) 1 (nI 20))) ++ (wI q3 cI 2 (upd (upd (fun _ => nI 0) 0 (nI 0)) 1 (nI 20))) ++ (wI q4 cI 2 (upd (upd (fun _ => nI 0) 0 (nI 0)) 1 (nI 20))) ++ (wI q5 cI 2 (upd (fun _ => nI 0) 0 (nI 0)))) (n := 63) hC 0 0 rfl rfl (by omega) (by omega) dX3_init_62 rfl (PW.r (PW.at 0 rfl rfl)) rfl ?_
  refine z_dup (n := 64) hC dX3_init_63 rfl rfl ?_
  refine z_iconst (v := nI 1) (n := 65) hC dX3_init_64 (by decide) rfl ?_
  refine z_bipush (v := nI 20) (n := 67) hC dX3_init_65 (by decide) rfl ?_
  refine y_iast (ws' := (wO1 a (.inr (3, [.int (nI 0), .null, .null]))) ++ (wFm q1 cJ 5 3 (updA (updA (updA (fun _ => 0) 0 q2) 1 q3) 2 q4)) ++ (wI q2 cI 2 (upd (upd (fun _ => nI 0) 0 (nI 0)) 1 (nI 20))) ++ (wI q3 cI 2 (upd (upd (fun _ => nI 0) 0 (nI 0)) 1 (nI 20))) ++ (wI q4 cI 2 (upd (upd (fun _ => nI 0) 0 (nI 0)) 1 (nI 20))) ++ (wI q5 cI 2 (upd (upd (fun _ => nI 0) 0 (nI 0)) 1 (nI 20)))) (n := 68) hC 0 1 rfl rfl (by omega) (by omega) dX3_init_67 rfl (PW.r (PW.at 0 rfl rfl)) rfl ?_
  refine y_qast (ws' := (wO1 a (.inr (3, [.int (nI 0), .null, .null]))) ++ (wFm q1 cJ 5 4 (updA (updA (updA (updA (fun _ => 0) 0 q2) 1 q3) 2 q4) 3 q5)) ++ (wI q2 cI 2 (upd (upd (fun _ => nI 0) 0 (nI 0)) 1 (nI 20))) ++ (wI q3 cI 2 (upd (upd (fun _ => nI 0) 0 (nI 0)) 1 (nI 20))) ++ (wI q4 cI 2 (upd (upd (fun _ => nI 0) 0 (nI 0)) 1 (nI 20))) ++ (wI q5 cI 2 (upd (upd (fun _ => nI 0) 0 (nI 0)) 1 (nI 20)))) (n := 69) hC 2 0 3 rfl rfl (MW.r (MW.at 0 rfl)) rfl (by omega) (by omega) rfF_put (PW.l (PW.l (PW.l (PW.l (PW.r (PW.at 0 rfl rfl)))))) dX3_init_68 rfl ?_
  refine z_dup (n := 70) hC dX3_init_69 rfl rfl ?_
  refine z_iconst (v := nI 4) (n := 71) hC dX3_init_70 (by decide) rfl ?_
  refine z_iconst (v := nI 2) (n := 72) hC dX3_init_71 (by decide) rfl ?_
  refine z_newaI (n := 74) (ws2 := fun q6 => (wO1 a (.inr (3, [.int (nI 0), .null, .null]))) ++ (wFm q1 cJ 5 4 (updA (updA (updA (updA (fun _ => 0) 0 q2) 1 q3) 2 q4) 3 q5)) ++ (wI q2 cI 2 (upd (upd (fun _ => nI 0) 0 (nI 0)) 1 (nI 20))) ++ (wI q3 cI 2 (upd (upd (fun _ => nI 0) 0 (nI 0)) 1 (nI 20))) ++ (wI q4 cI 2 (upd (upd (fun _ => nI 0) 0 (nI 0)) 1 (nI 20))) ++ (wI q5 cI 2 (upd (upd (fun _ => nI 0) 0 (nI 0)) 1 (nI 20))) ++ (wI q6 cI 2 (fun _ => nI 0))) hC 0 2 rfl q401 rfl (by omega) (by show 0 + 1 + 1 + 1 + 1 + 1 + 1 ≤ 7; omega) (by show 0 + 5 + 2 + 2 + 2 + 2 + 2 ≤ 15; omega) dX3_init_72 (fun _ => rfl) rfl (fun q6 => ?_)
  refine z_dup (n := 75) hC dX3_init_74 rfl rfl ?_
  refine z_iconst (v := nI 0) (n := 76) hC dX3_init_75 (by decide) rfl ?_
  refine z_iconst (v := nI 0) (n := 77) hC dX3_init_76 (by decide) rfl ?_
  refine y_iast (ws' := (wO1 a (.inr (3, [.int (nI 0), .null, .null]))) ++ (wFm q1 cJ 5 4 (updA (updA (updA (updA (fun _ => 0) 0 q2) 1 q3) 2 q4) 3 q5)) ++ (wI q2 cI 2 (upd (upd (fun _ => nI 0) 0 (nI 0)) 1 (nI 20))) ++ (wI q3 cI 2 (upd (upd (fun _ => nI 0) 0 (nI 0)) 1 (nI 20))) ++ (wI q4 cI 2 (upd (upd (fun _ => nI 0) 0 (nI 0)) 1 (nI 20))) ++ (wI q5 cI 2 (upd (upd (fun _ => nI 0) 0 (nI 0)) 1 (nI 20))) ++ (wI q6 cI 2 (upd (fun _ => nI 0) 0 (nI 0)))) (n := 78) hC 0 0 rfl rfl (by omega) (by omega) dX3_init_77 rfl (PW.r (PW.at 0 rfl rfl)) rfl ?_
  refine z_dup (n := 79) hC dX3_init_78 rfl rfl ?_
  refine z_iconst (v := nI 1) (n := 80) hC dX3_init_79 (by decide) rfl ?_
  refine z_bipush (v := nI 20) (n := 82) hC dX3_init_80 (by decide) rfl ?_
  refine y_iast (ws' := (wO1 a (.inr (3, [.int (nI 0), .null, .null]))) ++ (wFm q1 cJ 5 4 (updA (updA (updA (updA (fun _ => 0) 0 q2) 1 q3) 2 q4) 3 q5)) ++ (wI q2 cI 2 (upd (upd (fun _ => nI 0) 0 (nI 0)) 1 (nI 20))) ++ (wI q3 cI 2 (upd (upd (fun _ => nI 0) 0 (nI 0)) 1 (nI 20))) ++ (wI q4 cI 2 (upd (upd (fun _ => nI 0) 0 (nI 0)) 1 (nI 20))) ++ (wI q5 cI 2 (upd (upd (fun _ => nI 0) 0 (nI 0)) 1 (nI 20))) ++ (wI q6 cI 2 (upd (upd (fun _ => nI 0) 0 (nI 0)) 1 (nI 20)))) (n := 83) hC 0 1 rfl rfl (by omega) (by omega) dX3_init_82 rfl (PW.r (PW.at 0 rfl rfl)) rfl ?_
  refine y_qast (ws' := (wO1 a (.inr (3, [.int (nI 0), .null, .null]))) ++ (wFm q1 cJ 5 5 (updA (updA (updA (updA (updA (fun _ => 0) 0 q2) 1 q3) 2 q4) 3 q5) 4 q6)) ++ (wI q2 cI 2 (upd (upd (fun _ => nI 0) 0 (nI 0)) 1 (nI 20))) ++ (wI q3 cI 2 (upd (upd (fun _ => nI 0) 0 (nI 0)) 1 (nI 20))) ++ (wI q4 cI 2 (upd (upd (fun _ => nI 0) 0 (nI 0)) 1 (nI 20))) ++ (wI q5 cI 2 (upd (upd (fun _ => nI 0) 0 (nI 0)) 1 (nI 20))) ++ (wI q6 cI 2 (upd (upd (fun _ => nI 0) 0 (nI 0)) 1 (nI 20)))) (n := 84) hC 2 0 4 rfl rfl (MW.r (MW.at 0 rfl)) rfl (by omega) (by omega) rfF_put (PW.l (PW.l (PW.l (PW.l (PW.l (PW.r (PW.at 0 rfl rfl))))))) dX3_init_83 rfl ?_
  refine py_X3_9 (ws' := (wO1 a (.inr (3, [.int (nI 0), .ref q1, .null]))) ++ (wFm q1 cJ 5 5 (updA (updA (updA (updA (updA (fun _ => 0) 0 q2) 1 q3) 2 q4) 3 q5) 4 q6)) ++ (wI q2 cI 2 (upd (upd (fun _ => nI 0) 0 (nI 0)) 1 (nI 20))) ++ (wI q3 cI 2 (upd (upd (fun _ => nI 0) 0 (nI 0)) 1 (nI 20))) ++ (wI q4 cI 2 (upd (upd (fun _ => nI 0) 0 (nI 0)) 1 (nI 20))) ++ (wI q5 cI 2 (upd (upd (fun _ => nI 0) 0 (nI 0)) 1 (nI 20))) ++ (wI q6 cI 2 (upd (upd (fun _ => nI 0) 0 (nI 0)) 1 (nI 20)))) (n := 87) hC (Nat.le_of_ble_eq_true rfl) (PW.l (PW.l (PW.l (PW.l (PW.l (PW.l (PW.at 0 rfl rfl))))))) dX3_init_84 rfl ?_
  refine z_aload_n (n := 88) hC dX3_init_87 rfl 0 rfl rfl ?_
  refine z_iconst (v := nI 0) (n := 89) hC dX3_init_88 (by decide) rfl ?_
  refine y_anew (n := 92) (ws2 := fun q7 => (wO1 a (.inr (3, [.int (nI 0), .ref q1, .null]))) ++ (wFm q1 cJ 5 5 (updA (updA (updA (updA (updA (fun _ => 0) 0 q2) 1 q3) 2 q4) 3 q5) 4 q6)) ++ (wI q2 cI 2 (upd (upd (fun _ => nI 0) 0 (nI 0)) 1 (nI 20))) ++ (wI q3 cI 2 (upd (upd (fun _ => nI 0) 0 (nI 0)) 1 (nI 20))) ++ (wI q4 cI 2 (upd (upd (fun _ => nI 0) 0 (nI 0)) 1 (nI 20))) ++ (wI q5 cI 2 (upd (upd (fun _ => nI 0) 0 (nI 0)) 1 (nI 20))) ++ (wI q6 cI 2 (upd (upd (fun _ => nI 0) 0 (nI 0)) 1 (nI 20))) ++ (wO1 q7 (.inl (cJ, 0, .inr (.inr (.inr (.inr (fun _ => none)))))))) hC 2 0 rfl q413 rfl (by omega) (by show 0 + 1 + 1 + 1 + 1 + 1 + 1 + 1 ≤ 7; omega) (by show 0 + 5 + 2 + 2 + 2 + 2 + 2 + 0 ≤ 15; omega) dX3_init_89 (fun _ => rfl) rfl (fun q7 => ?_)
  refine z_weq (ws' := (wO1 a (.inr (3, [.int (nI 0), .ref q1, .null]))) ++ (wFm q1 cJ 5 5 (updA (updA (updA (updA (updA (fun _ => 0) 0 q2) 1 q3) 2 q4) 3 q5) 4 q6)) ++ (wI q2 cI 2 (upd (upd (fun _ => nI 0) 0 (nI 0)) 1 (nI 20))) ++ (wI q3 cI 2 (upd (upd (fun _ => nI 0) 0 (nI 0)) 1 (nI 20))) ++ (wI q4 cI 2 (upd (upd (fun _ => nI 0) 0 (nI 0)) 1 (nI 20))) ++ (wI q5 cI 2 (upd (upd (fun _ => nI 0) 0 (nI 0)) 1 (nI 20))) ++ (wI q6 cI 2 (upd (upd (fun _ => nI 0) 0 (nI 0)) 1 (nI 20))) ++ (wFm q7 cJ 0 0 (fun _ => 0))) (by rw [rfF_0 (ad := (fun _ => 0))]) ?_
  refine py_X3_15 (ws' := (wO1 a (.inr (3, [.int (nI 0), .ref q1, .ref q7]))) ++ (wFm q1 cJ 5 5 (updA (updA (updA (updA (updA (fun _ => 0) 0 q2) 1 q3) 2 q4) 3 q5) 4 q6)) ++ (wI q2 cI 2 (upd (upd (fun _ => nI 0) 0 (nI 0)) 1 (nI 20))) ++ (wI q3 cI 2 (upd (upd (fun _ => nI 0) 0 (nI 0)) 1 (nI 20))) ++ (wI q4 cI 2 (upd (upd (fun _ => nI 0) 0 (nI 0)) 1 (nI 20))) ++ (wI q5 cI 2 (upd (upd (fun _ => nI 0) 0 (nI 0)) 1 (nI 20))) ++ (wI q6 cI 2 (upd (upd (fun _ => nI 0) 0 (nI 0)) 1 (nI 20))) ++ (wFm q7 cJ 0 0 (fun _ => 0))) (n := 95) hC (Nat.le_of_ble_eq_true rfl) (PW.l (PW.l (PW.l (PW.l (PW.l (PW.l (PW.l (PW.at 0 rfl rfl)))))))) dX3_init_92 rfl ?_
  refine y_perm (ws' := (wO1 a (.inr (3, [.int (nI 0), .ref q1, .ref q7]))) ++ (wFm q1 cJ 5 5 (updA (updA (updA (updA (updA (fun _ => 0) 0 q2) 1 q3) 2 q4) 3 q5) 4 q6)) ++ (wFm q7 cJ 0 0 (fun _ => 0)) ++ (wI q2 cI 2 (upd (upd (fun _ => nI 0) 0 (nI 0)) 1 (nI 20))) ++ (wI q3 cI 2 (upd (upd (fun _ => nI 0) 0 (nI 0)) 1 (nI 20))) ++ (wI q4 cI 2 (upd (upd (fun _ => nI 0) 0 (nI 0)) 1 (nI 20))) ++ (wI q5 cI 2 (upd (upd (fun _ => nI 0) 0 (nI 0)) 1 (nI 20))) ++ (wI q6 cI 2 (upd (upd (fun _ => nI 0) 0 (nI 0)) 1 (nI 20)))) ([]) (catL_permN 8 [wO1 a (.inr (3, [.int (nI 0), .ref q1, .ref q7])), wFm q1 cJ 5 5 (updA (updA (updA (updA (updA (fun _ => 0) 0 q2) 1 q3) 2 q4) 3 q5) 4 q6), wI q2 cI 2 (upd (upd (fun _ => nI 0) 0 (nI 0)) 1 (nI 20)), wI q3 cI 2 (upd (upd (fun _ => nI 0) 0 (nI 0)) 1 (nI 20)), wI q4 cI 2 (upd (upd (fun _ => nI 0) 0 (nI 0)) 1 (nI 20)), wI q5 cI 2 (upd (upd (fun _ => nI 0) 0 (nI 0)) 1 (nI 20)), wI q6 cI 2 (upd (upd (fun _ => nI 0) 0 (nI 0)) 1 (nI 20)), wFm q7 cJ 0 0 (fun _ => 0)] [0, 1, 7, 2, 3, 4, 5, 6] [] rfl [wO1 a (.inr (3, [.int (nI 0), .ref q1, .ref q7])), wFm q1 cJ 5 5 (updA (updA (updA (updA (updA (fun _ => 0) 0 q2) 1 q3) 2 q4) 3 q5) 4 q6), wFm q7 cJ 0 0 (fun _ => 0), wI q2 cI 2 (upd (upd (fun _ => nI 0) 0 (nI 0)) 1 (nI 20)), wI q3 cI 2 (upd (upd (fun _ => nI 0) 0 (nI 0)) 1 (nI 20)), wI q4 cI 2 (upd (upd (fun _ => nI 0) 0 (nI 0)) 1 (nI 20)), wI q5 cI 2 (upd (upd (fun _ => nI 0) 0 (nI 0)) 1 (nI 20)), wI q6 cI 2 (upd (upd (fun _ => nI 0) 0 (nI 0)) 1 (nI 20))] [] rfl rfl (by decide)) ?_
  refine z_weq (ws' := (wO1 a (.inr (3, [.int (nI 0), .ref q1, .ref q7]))) ++ (wFm q1 cJ 5 5 (updA (updA (updA (updA (updA (fun _ => 0) 0 q2) 1 q3) 2 q4) 3 q5) 4 q6)) ++ (wFm q7 cJ 0 0 (fun _ => 0)) ++ (wI q2 cI 2 rw0) ++ (wI q3 cI 2 rw0) ++ (wI q4 cI 2 rw0) ++ (wI q5 cI 2 rw0) ++ (wI q6 cI 2 rw0)) (rfl) ?_
  refine z_weq (ws' := (wO1 a (.inr (3, [.int (nI 0), .ref q1, .ref q7]))) ++ (wFm q1 cJ 5 5 (updA (updA (updA (updA (updA (fun _ => 0) 0 q2) 1 q3) 2 q4) 3 q5) 4 q6)) ++ (wFm q7 cJ 0 0 (fun _ => 0)) ++ (wR (updA (updA (updA (updA (updA (fun _ => 0) 0 q2) 1 q3) 2 q4) 3 q5) 4 q6) cI z0 sp0)) (rows5 rfl rfl rfl rfl rfl) ?_
  refine z_weq (ws' := (wQ a q1 q7 0) ++ (wF q1 cJ 5 (updA (updA (updA (updA (updA (fun _ => 0) 0 q2) 1 q3) 2 q4) 3 q5) 4 q6)) ++ (wF q7 cJ 0 (fun _ => 0)) ++ (wR (updA (updA (updA (updA (updA (fun _ => 0) 0 q2) 1 q3) 2 q4) 3 q5) 4 q6) cI z0 sp0)) (rfl) ?_
  refine z_vret hC hr hlocks (q1, q7, updA (updA (updA (updA (updA (fun _ => 0) 0 q2) 1 q3) 2 q4) 3 q5) 4 q6, (fun _ => 0)) ?_ rfl dX3_init_95 (by omega) (by omega)
  trivial

set_option maxRecDepth 100000 in
set_option maxHeartbeats 4000000 in
theorem k_X3_add (l : Launch) (G : va_G) (cI cZ cJ : ClassId) (q : Nat) (tr : Nat) (go : Nat) (T : Nat) (ga : Nat → Nat) (sw : Nat → Int32) (st : Nat → Int32) (fa : Nat → Int32) (sc : Nat → Int32) (fi : Nat → Int32) (mi : Nat → Int32) (n : Nat) (x : Int32) (y : Int32) (hn : n < 6) : MV (Nat × (Nat → Nat)) l yX3_add cX3_add 5 0 0 G (tY cI cZ cJ) [.ref q, .int x, .int y] ((wQ q tr go T) ++ (wF go cJ n ga) ++ (wG ga cI sw st fa sc fi mi n)) (fun _ => True) (fun zu => (wQ q tr zu.1 T) ++ (wF zu.1 cJ (n + 1) zu.2) ++ (wG zu.2 cI (upd sw n x) (upd st n y) (upd fa n (nI 0)) (upd sc n (nI 0)) (upd fi n (nI 0)) (upd mi n (nI 0)) (n + 1))) 2 12 := by
  refine MV_of (by decide) (Nat.le_of_ble_eq_true rfl) [(0, .ref q), (1, .int x), (2, .int y)] rfl ?_
  intro p e s m below meth c hC hr hlocks hname
  have hC : Cx p s m _ c cX3_add 5 RX3 G (tY cI cZ cJ) _ := hC
  refine z_aload_n (n := 1) hC dX3_add_0 rfl 0 rfl rfl ?_
  refine gy_X3_15 (v := .ref go) (n := 4) hC (MW.l (MW.l (MW.at 0 rfl))) rfl dX3_add_1 rfl ?_
  refine y_alen (v := nI n) (n := 5) hC 2 (MW.l (MW.r (MW.at 0 rfl))) rfl rfl dX3_add_4 rfl ?_
  refine z_iconst (v := nI 1) (n := 6) hC dX3_add_5 (by decide) rfl ?_
  refine z_iadd (v := nI (n + 1)) (n := 7) hC dX3_add_6 (nI_add n 1) rfl ?_
  refine y_anew (n := 10) (ws2 := fun q1 => (wQ q tr go T) ++ (wF go cJ n ga) ++ (wG ga cI sw st fa sc fi mi n) ++ (wO1 q1 (.inl (cJ, n + 1, .inr (.inr (.inr (.inr (fun _ => none)))))))) hC 2 (n + 1) rfl q413 rfl (by omega) (by show 0 + 1 ≤ 2; omega) (by show 0 + (n + 1) ≤ 12; omega) dX3_add_7 (fun _ => rfl) rfl (fun q1 => ?_)
  refine z_weq (ws' := (wQ q tr go T) ++ (wF go cJ n ga) ++ (wG ga cI sw st fa sc fi mi n) ++ (wFm q1 cJ (n + 1) 0 ga)) (by rw [rfF_0 (ad := ga)]) ?_
  refine z_astore_n (lv' := [(3, .ref q1), (0, .ref q), (1, .int x), (2, .int y)]) (n := 11) hC dX3_add_10 rfl (by decide) rfl rfl ?_
  refine z_iconst (v := nI 0) (n := 12) hC dX3_add_11 (by decide) rfl ?_
  refine z_istore (lv' := [(4, .int (nI 0)), (3, .ref q1), (0, .ref q), (1, .int x), (2, .int y)]) (n := 14) hC dX3_add_12 (by decide) rfl rfl ?_
  refine z_lv [2, 3, 4, 1, 0] (lv' := [(0, .ref q), (1, .int x), (2, .int y), (3, .ref q1), (4, .int (nI 0))]) rfl ?_
  refine z_loop n 0 (fun i => (wQ q tr go T) ++ (wF go cJ n ga) ++ (wG ga cI sw st fa sc fi mi n) ++ (wFm q1 cJ (n + 1) i ga)) (fun i => [(0, .ref q), (1, .int x), (2, .int y), (3, .ref q1), (4, .int (nI i))]) (by omega) rfl rfl (fun i hi0 hi1 ih => ?_)
  refine z_iload (n := 16) hC dX3_add_14 4 rfl rfl ?_
  refine z_aload_n (n := 17) hC dX3_add_16 rfl 0 rfl rfl ?_
  refine gy_X3_15 (v := .ref go) (n := 20) hC (MW.l (MW.l (MW.l (MW.at 0 rfl)))) rfl dX3_add_17 rfl ?_
  refine y_alen (v := nI n) (n := 21) hC 2 (MW.l (MW.l (MW.r (MW.at 0 rfl)))) rfl rfl dX3_add_20 rfl ?_
  refine z_icmp_ge_n (tgt := 41) (n := 24) hC i n rfl rfl (by omega) (by omega) dX3_add_21 (by decide) rfl (fun c2 => ?_) (fun c2 => ?_)
  · obtain rfl : n = i := by omega
    refine z_aload_n (n := 42) hC dX3_add_41 rfl 3 rfl rfl ?_
    refine z_aload_n (n := 43) hC dX3_add_42 rfl 0 rfl rfl ?_
    refine gy_X3_15 (v := .ref go) (n := 46) hC (MW.l (MW.l (MW.l (MW.at 0 rfl)))) rfl dX3_add_43 rfl ?_
    refine y_alen (v := nI n) (n := 47) hC 2 (MW.l (MW.l (MW.r (MW.at 0 rfl)))) rfl rfl dX3_add_46 rfl ?_
    refine z_bipush (v := nI 6) (n := 49) hC dX3_add_47 (by decide) rfl ?_
    refine z_newaI (n := 51) (ws2 := fun q3 => (wQ q tr go T) ++ (wF go cJ n ga) ++ (wG ga cI sw st fa sc fi mi n) ++ (wFm q1 cJ (n + 1) n ga) ++ (wI q3 cI 6 (fun _ => nI 0))) hC 0 6 rfl q401 rfl (by omega) (by show 0 + 1 + 1 ≤ 2; omega) (by show 0 + (n + 1) + 6 ≤ 12; omega) dX3_add_49 (fun _ => rfl) rfl (fun q3 => ?_)
    refine z_dup (n := 52) hC dX3_add_51 rfl rfl ?_
    refine z_iconst (v := nI 0) (n := 53) hC dX3_add_52 (by decide) rfl ?_
    refine z_iload_n (n := 54) hC dX3_add_53 rfl 1 rfl rfl ?_
    refine y_iast (ws' := (wQ q tr go T) ++ (wF go cJ n ga) ++ (wG ga cI sw st fa sc fi mi n) ++ (wFm q1 cJ (n + 1) n ga) ++ (wI q3 cI 6 (upd (fun _ => nI 0) 0 x))) (n := 55) hC 0 0 rfl rfl (by omega) (by omega) dX3_add_54 rfl (PW.r (PW.at 0 rfl rfl)) rfl ?_
    refine z_dup (n := 56) hC dX3_add_55 rfl rfl ?_
    refine z_iconst (v := nI 1) (n := 57) hC dX3_add_56 (by decide) rfl ?_
    refine z_iload_n (n := 58) hC dX3_add_57 rfl 2 rfl rfl ?_
    refine y_iast (ws' := (wQ q tr go T) ++ (wF go cJ n ga) ++ (wG ga cI sw st fa sc fi mi n) ++ (wFm q1 cJ (n + 1) n ga) ++ (wI q3 cI 6 (upd (upd (fun _ => nI 0) 0 x) 1 y))) (n := 59) hC 0 1 rfl rfl (by omega) (by omega) dX3_add_58 rfl (PW.r (PW.at 0 rfl rfl)) rfl ?_
    refine z_dup (n := 60) hC dX3_add_59 rfl rfl ?_
    refine z_iconst (v := nI 2) (n := 61) hC dX3_add_60 (by decide) rfl ?_
    refine z_iconst (v := nI 0) (n := 62) hC dX3_add_61 (by decide) rfl ?_
    refine y_iast (ws' := (wQ q tr go T) ++ (wF go cJ n ga) ++ (wG ga cI sw st fa sc fi mi n) ++ (wFm q1 cJ (n + 1) n ga) ++ (wI q3 cI 6 (upd (upd (upd (fun _ => nI 0) 0 x) 1 y) 2 (nI 0)))) (n := 63) hC 0 2 rfl rfl (by omega) (by omega) dX3_add_62 rfl (PW.r (PW.at 0 rfl rfl)) rfl ?_
    refine z_dup (n := 64) hC dX3_add_63 rfl rfl ?_
    refine z_iconst (v := nI 3) (n := 65) hC dX3_add_64 (by decide) rfl ?_
    refine z_iconst (v := nI 0) (n := 66) hC dX3_add_65 (by decide) rfl ?_
    refine y_iast (ws' := (wQ q tr go T) ++ (wF go cJ n ga) ++ (wG ga cI sw st fa sc fi mi n) ++ (wFm q1 cJ (n + 1) n ga) ++ (wI q3 cI 6 (upd (upd (upd (upd (fun _ => nI 0) 0 x) 1 y) 2 (nI 0)) 3 (nI 0)))) (n := 67) hC 0 3 rfl rfl (by omega) (by omega) dX3_add_66 rfl (PW.r (PW.at 0 rfl rfl)) rfl ?_
    refine z_dup (n := 68) hC dX3_add_67 rfl rfl ?_
    refine z_iconst (v := nI 4) (n := 69) hC dX3_add_68 (by decide) rfl ?_
    refine z_iconst (v := nI 0) (n := 70) hC dX3_add_69 (by decide) rfl ?_
    refine y_iast (ws' := (wQ q tr go T) ++ (wF go cJ n ga) ++ (wG ga cI sw st fa sc fi mi n) ++ (wFm q1 cJ (n + 1) n ga) ++ (wI q3 cI 6 (upd (upd (upd (upd (upd (fun _ => nI 0) 0 x) 1 y) 2 (nI 0)) 3 (nI 0)) 4 (nI 0)))) (n := 71) hC 0 4 rfl rfl (by omega) (by omega) dX3_add_70 rfl (PW.r (PW.at 0 rfl rfl)) rfl ?_
    refine z_dup (n := 72) hC dX3_add_71 rfl rfl ?_
    refine z_iconst (v := nI 5) (n := 73) hC dX3_add_72 (by decide) rfl ?_
    refine z_iconst (v := nI 0) (n := 74) hC dX3_add_73 (by decide) rfl ?_
    refine y_iast (ws' := (wQ q tr go T) ++ (wF go cJ n ga) ++ (wG ga cI sw st fa sc fi mi n) ++ (wFm q1 cJ (n + 1) n ga) ++ (wI q3 cI 6 (upd (upd (upd (upd (upd (upd (fun _ => nI 0) 0 x) 1 y) 2 (nI 0)) 3 (nI 0)) 4 (nI 0)) 5 (nI 0)))) (n := 75) hC 0 5 rfl rfl (by omega) (by omega) dX3_add_74 rfl (PW.r (PW.at 0 rfl rfl)) rfl ?_
    refine y_qast (ws' := (wQ q tr go T) ++ (wF go cJ n ga) ++ (wG ga cI sw st fa sc fi mi n) ++ (wFm q1 cJ (n + 1) (n + 1) (updA ga n q3)) ++ (wI q3 cI 6 (upd (upd (upd (upd (upd (upd (fun _ => nI 0) 0 x) 1 y) 2 (nI 0)) 3 (nI 0)) 4 (nI 0)) 5 (nI 0)))) (n := 76) hC 2 0 n rfl rfl (MW.r (MW.at 0 rfl)) rfl (by omega) (by omega) rfF_put (PW.l (PW.r (PW.at 0 rfl rfl))) dX3_add_75 rfl ?_
    refine z_aload_n (n := 77) hC dX3_add_76 rfl 0 rfl rfl ?_
    refine z_aload_n (n := 78) hC dX3_add_77 rfl 3 rfl rfl ?_
    refine py_X3_15 (ws' := (wQ q tr q1 T) ++ (wF go cJ n ga) ++ (wG ga cI sw st fa sc fi mi n) ++ (wFm q1 cJ (n + 1) (n + 1) (updA ga n q3)) ++ (wI q3 cI 6 (upd (upd (upd (upd (upd (upd (fun _ => nI 0) 0 x) 1 y) 2 (nI 0)) 3 (nI 0)) 4 (nI 0)) 5 (nI 0)))) (n := 81) hC (Nat.le_of_ble_eq_true rfl) (PW.l (PW.l (PW.l (PW.l (PW.at 0 rfl rfl))))) dX3_add_78 rfl ?_
    refine y_perm (ws' := (wQ q tr q1 T) ++ (wFm q1 cJ (n + 1) (n + 1) (updA ga n q3)) ++ (wG ga cI sw st fa sc fi mi n) ++ (wI q3 cI 6 (upd (upd (upd (upd (upd (upd (fun _ => nI 0) 0 x) 1 y) 2 (nI 0)) 3 (nI 0)) 4 (nI 0)) 5 (nI 0)))) (wF go cJ n ga) (catL_permN 5 [wQ q tr q1 T, wF go cJ n ga, wG ga cI sw st fa sc fi mi n, wFm q1 cJ (n + 1) (n + 1) (updA ga n q3), wI q3 cI 6 (upd (upd (upd (upd (upd (upd (fun _ => nI 0) 0 x) 1 y) 2 (nI 0)) 3 (nI 0)) 4 (nI 0)) 5 (nI 0))] [0, 3, 2, 4] [1] rfl [wQ q tr q1 T, wFm q1 cJ (n + 1) (n + 1) (updA ga n q3), wG ga cI sw st fa sc fi mi n, wI q3 cI 6 (upd (upd (upd (upd (upd (upd (fun _ => nI 0) 0 x) 1 y) 2 (nI 0)) 3 (nI 0)) 4 (nI 0)) 5 (nI 0))] [wF go cJ n ga] rfl rfl (by decide)) ?_
    refine z_weq (ws' := (wQ q tr q1 T) ++ (wF q1 cJ (n + 1) (updA ga n q3)) ++ (wG (updA ga n q3) cI (upd sw n x) (upd st n y) (upd fa n (nI 0)) (upd sc n (nI 0)) (upd fi n (nI 0)) (upd mi n (nI 0)) (n + 1))) (add_push) ?_
    refine z_vret hC hr hlocks (q1, updA ga n q3) ?_ rfl dX3_add_81 (by omega) (by omega)
    trivial
  · refine z_aload_n (n := 25) hC dX3_add_24 rfl 3 rfl rfl ?_
    refine z_iload (n := 27) hC dX3_add_25 4 rfl rfl ?_
    refine z_aload_n (n := 28) hC dX3_add_27 rfl 0 rfl rfl ?_
    refine gy_X3_15 (v := .ref go) (n := 31) hC (MW.l (MW.l (MW.l (MW.at 0 rfl)))) rfl dX3_add_28 rfl ?_
    refine z_iload (n := 33) hC dX3_add_31 4 rfl rfl ?_
    refine y_qald (v := ga i) (n := 34) hC 2 i (MW.l (MW.l (MW.r (MW.at 0 rfl)))) rfl rfl (by omega) (by omega) (rfF_at (by omega)) dX3_add_33 rfl ?_
    refine y_qast (ws' := (wQ q tr go T) ++ (wF go cJ n ga) ++ (wG ga cI sw st fa sc fi mi n) ++ (wFm q1 cJ (n + 1) (i + 1) ga)) (n := 35) hC 2 0 i rfl rfl (MW.l (MW.r (MW.pool i (by omega)))) rfl (by omega) (by omega) rfF_s (PW.r (PW.at 0 rfl rfl)) dX3_add_34 rfl ?_
    refine z_iinc (k0 := 4) (v := nI (i + 1)) (lv' := [(4, .int (nI (i + 1))), (0, .ref q), (1, .int x), (2, .int y), (3, .ref q1)]) (n := 38) hC dX3_add_35 rfl (nI_add i 1) (by decide) rfl rfl ?_
    refine z_goto (n := 14) hC dX3_add_38 (by decide) ?_
    refine z_lv [1, 2, 3, 4, 0] (lv' := [(0, .ref q), (1, .int x), (2, .int y), (3, .ref q1), (4, .int (nI (i + 1)))]) rfl ?_
    exact ih (i + 1) (by omega) (by omega)

set_option maxRecDepth 100000 in
set_option maxHeartbeats 4000000 in
theorem k_X3_copy (l : Launch) (G : va_G) (cI cZ cJ : ClassId) (q : Nat) (tr : Nat) (go : Nat) (T : Nat) (ra : Nat → Nat) (b : Nat → Int32) (r : Nat → Int32) (ga : Nat → Nat) (sw : Nat → Int32) (st : Nat → Int32) (fa : Nat → Int32) (sc : Nat → Int32) (fi : Nat → Int32) (mi : Nat → Int32) (n : Nat) (hn : n ≤ 6) : MR (Nat × Nat × (Nat → Nat)) l yX3_copy cX3_copy 3 2 40 (.object "ClayTrapsLaw$Sim") G (tY cI cZ cJ) [.ref q] ((wQ q tr go T) ++ (wF tr cJ 5 ra) ++ (wR ra cI b r) ++ (wF go cJ n ga) ++ (wG ga cI sw st fa sc fi mi n)) (fun _ => True) (fun zu => zu.1) (fun zu => (wQ q tr go T) ++ (wF tr cJ 5 ra) ++ (wR ra cI b r) ++ (wF go cJ n ga) ++ (wG ga cI sw st fa sc fi mi n) ++ (wQ zu.1 tr zu.2.1 T) ++ (wF zu.2.1 cJ n zu.2.2) ++ (wG zu.2.2 cI sw st fa sc fi mi n)) 16 64 := by
  refine MR_of (by decide) (Nat.le_of_ble_eq_true rfl) [(0, .ref q)] rfl ?_
  intro p e s m below meth c hC hr hlocks
  have hC : Cx p s m _ c cX3_copy 3 RX3 G (tY cI cZ cJ) _ := hC
  refine z_new (n := 3) (ws2 := fun q1 => (wQ q tr go T) ++ (wF tr cJ 5 ra) ++ (wR ra cI b r) ++ (wF go cJ n ga) ++ (wG ga cI sw st fa sc fi mi n) ++ (wO1 q1 (.inr (3, [.int (nI 0), .null, .null])))) hC inX3 tyX3 tyX3_ok rfl q411 q412 q287 [.int (nI 0), .null, .null] (fun j hj => by rcases (show j = 0 ∨ j = 1 ∨ j = 2 by omega) with rfl | rfl | rfl <;> rfl) (by show 0 + 1 ≤ 16; omega) (by show 0 + 3 ≤ 64; omega) dX3_copy_0 (fun _ => rfl) rfl (fun q1 => ?_)
  refine z_dup (n := 4) hC dX3_copy_3 rfl rfl ?_
  refine y_callIv (R := { frames := 2, cells := 16, slots := 64, locals := 40 }) (cells := 0 + 1) (slots := 0 + 3) (n := 7) (rest := [.ref q1]) hC (k_X3_init l G cI cZ cJ q1 ) kg_X3_18 q289 q290 q287 rfl kd_yX3_init dX3_copy_4 ⟨Nat.le_of_ble_eq_true rfl, Nat.le_of_ble_eq_true rfl⟩ ((wQ q tr go T) ++ (wF tr cJ 5 ra) ++ (wR ra cI b r) ++ (wF go cJ n ga) ++ (wG ga cI sw st fa sc fi mi n)) (catL_permN 6 [wQ q tr go T, wF tr cJ 5 ra, wR ra cI b r, wF go cJ n ga, wG ga cI sw st fa sc fi mi n, wO1 q1 (.inr (3, [.int (nI 0), .null, .null]))] [5] [0, 1, 2, 3, 4] rfl [wO1 q1 (.inr (3, [.int (nI 0), .null, .null]))] [wQ q tr go T, wF tr cJ 5 ra, wR ra cI b r, wF go cJ n ga, wG ga cI sw st fa sc fi mi n] rfl rfl (by decide)) (Nat.le_of_ble_eq_true rfl) ⟨by show 0 + 1 + 7 ≤ 16; omega, by show 0 + 3 + 15 ≤ 64; omega⟩ (fun u2 => (wQ q tr go T) ++ (wF tr cJ 5 ra) ++ (wR ra cI b r) ++ (wF go cJ n ga) ++ (wG ga cI sw st fa sc fi mi n) ++ (wQ q1 u2.1 u2.2.1 0) ++ (wF u2.1 cJ 5 u2.2.2.1) ++ (wF u2.2.1 cJ 0 u2.2.2.2) ++ (wR u2.2.2.1 cI z0 sp0)) (fun _ => []) (fun u2 => catL_back 9 [wQ q tr go T, wF tr cJ 5 ra, wR ra cI b r, wF go cJ n ga, wG ga cI sw st fa sc fi mi n, wQ q1 u2.1 u2.2.1 0, wF u2.1 cJ 5 u2.2.2.1, wF u2.2.1 cJ 0 u2.2.2.2, wR u2.2.2.1 cI z0 sp0] [5, 6, 7, 8] [0, 1, 2, 3, 4] rfl [wQ q1 u2.1 u2.2.1 0, wF u2.1 cJ 5 u2.2.2.1, wF u2.2.1 cJ 0 u2.2.2.2, wR u2.2.2.1 cI z0 sp0] [wQ q tr go T, wF tr cJ 5 ra, wR ra cI b r, wF go cJ n ga, wG ga cI sw st fa sc fi mi n] rfl rfl (by decide)) rfl rfl (fun u2 h4 => ?_)
  refine z_astore_n (lv' := [(1, .ref q1), (0, .ref q)]) (n := 8) hC dX3_copy_7 rfl (by decide) rfl rfl ?_
  refine z_aload_n (n := 9) hC dX3_copy_8 rfl 0 rfl rfl ?_
  refine z_aload_n (n := 10) hC dX3_copy_9 rfl 1 rfl rfl ?_
  refine gy_X3_19 (v := .int (nI T)) (n := 13) hC (MW.l (MW.l (MW.l (MW.l (MW.l (MW.l (MW.l (MW.l (MW.at 0 rfl))))))))) rfl dX3_copy_10 rfl ?_
  refine py_X3_19 (ws' := (wQ q tr go T) ++ (wF tr cJ 5 ra) ++ (wR ra cI b r) ++ (wF go cJ n ga) ++ (wG ga cI sw st fa sc fi mi n) ++ (wQ q1 u2.1 u2.2.1 T) ++ (wF u2.1 cJ 5 u2.2.2.1) ++ (wF u2.2.1 cJ 0 u2.2.2.2) ++ (wR u2.2.2.1 cI z0 sp0)) (n := 16) hC (Nat.le_of_ble_eq_true rfl) (PW.l (PW.l (PW.l (PW.r (PW.at 0 rfl rfl))))) dX3_copy_13 rfl ?_
  refine z_aload_n (n := 17) hC dX3_copy_16 rfl 0 rfl rfl ?_
  refine z_aload_n (n := 18) hC dX3_copy_17 rfl 1 rfl rfl ?_
  refine gy_X3_9 (v := .ref tr) (n := 21) hC (MW.l (MW.l (MW.l (MW.l (MW.l (MW.l (MW.l (MW.l (MW.at 0 rfl))))))))) rfl dX3_copy_18 rfl ?_
  refine py_X3_9 (ws' := (wQ q tr go T) ++ (wF tr cJ 5 ra) ++ (wR ra cI b r) ++ (wF go cJ n ga) ++ (wG ga cI sw st fa sc fi mi n) ++ (wQ q1 tr u2.2.1 T) ++ (wF u2.1 cJ 5 u2.2.2.1) ++ (wF u2.2.1 cJ 0 u2.2.2.2) ++ (wR u2.2.2.1 cI z0 sp0)) (n := 24) hC (Nat.le_of_ble_eq_true rfl) (PW.l (PW.l (PW.l (PW.r (PW.at 0 rfl rfl))))) dX3_copy_21 rfl ?_
  refine z_aload_n (n := 25) hC dX3_copy_24 rfl 0 rfl rfl ?_
  refine z_aload_n (n := 26) hC dX3_copy_25 rfl 1 rfl rfl ?_
  refine gy_X3_15 (v := .ref go) (n := 29) hC (MW.l (MW.l (MW.l (MW.l (MW.l (MW.l (MW.l (MW.l (MW.at 0 rfl))))))))) rfl dX3_copy_26 rfl ?_
  refine y_alen (v := nI n) (n := 30) hC 2 (MW.l (MW.l (MW.l (MW.l (MW.l (MW.r (MW.at 0 rfl))))))) rfl rfl dX3_copy_29 rfl ?_
  refine y_anew (n := 33) (ws2 := fun q5 => (wQ q tr go T) ++ (wF tr cJ 5 ra) ++ (wR ra cI b r) ++ (wF go cJ n ga) ++ (wG ga cI sw st fa sc fi mi n) ++ (wQ q1 tr u2.2.1 T) ++ (wF u2.1 cJ 5 u2.2.2.1) ++ (wF u2.2.1 cJ 0 u2.2.2.2) ++ (wR u2.2.2.1 cI z0 sp0) ++ (wO1 q5 (.inl (cJ, n, .inr (.inr (.inr (.inr (fun _ => none)))))))) hC 2 n rfl q413 rfl (by omega) (by show 0 + 1 + 7 + 1 ≤ 16; omega) (by show 0 + 3 + 15 + n ≤ 64; omega) dX3_copy_30 (fun _ => rfl) rfl (fun q5 => ?_)
  refine z_weq (ws' := (wQ q tr go T) ++ (wF tr cJ 5 ra) ++ (wR ra cI b r) ++ (wF go cJ n ga) ++ (wG ga cI sw st fa sc fi mi n) ++ (wQ q1 tr u2.2.1 T) ++ (wF u2.1 cJ 5 u2.2.2.1) ++ (wF u2.2.1 cJ 0 u2.2.2.2) ++ (wR u2.2.2.1 cI z0 sp0) ++ (wFm q5 cJ n 0 ga)) (by rw [rfF_0 (ad := ga)]) ?_
  refine py_X3_15 (ws' := (wQ q tr go T) ++ (wF tr cJ 5 ra) ++ (wR ra cI b r) ++ (wF go cJ n ga) ++ (wG ga cI sw st fa sc fi mi n) ++ (wQ q1 tr q5 T) ++ (wF u2.1 cJ 5 u2.2.2.1) ++ (wF u2.2.1 cJ 0 u2.2.2.2) ++ (wR u2.2.2.1 cI z0 sp0) ++ (wFm q5 cJ n 0 ga)) (n := 36) hC (Nat.le_of_ble_eq_true rfl) (PW.l (PW.l (PW.l (PW.l (PW.r (PW.at 0 rfl rfl)))))) dX3_copy_33 rfl ?_
  refine z_iconst (v := nI 0) (n := 37) hC dX3_copy_36 (by decide) rfl ?_
  refine z_istore_n (lv' := [(2, .int (nI 0)), (1, .ref q1), (0, .ref q)]) (n := 38) hC dX3_copy_37 rfl (by decide) rfl rfl ?_
  refine y_perm (ws' := (wQ q tr go T) ++ (wF tr cJ 5 ra) ++ (wR ra cI b r) ++ (wF go cJ n ga) ++ (wG ga cI sw st fa sc fi mi n) ++ (wQ q1 tr q5 T) ++ (wFm q5 cJ n 0 ga)) ((wF u2.1 cJ 5 u2.2.2.1) ++ (wF u2.2.1 cJ 0 u2.2.2.2) ++ (wR u2.2.2.1 cI z0 sp0)) (catL_permN 10 [wQ q tr go T, wF tr cJ 5 ra, wR ra cI b r, wF go cJ n ga, wG ga cI sw st fa sc fi mi n, wQ q1 tr q5 T, wF u2.1 cJ 5 u2.2.2.1, wF u2.2.1 cJ 0 u2.2.2.2, wR u2.2.2.1 cI z0 sp0, wFm q5 cJ n 0 ga] [0, 1, 2, 3, 4, 5, 9] [6, 7, 8] rfl [wQ q tr go T, wF tr cJ 5 ra, wR ra cI b r, wF go cJ n ga, wG ga cI sw st fa sc fi mi n, wQ q1 tr q5 T, wFm q5 cJ n 0 ga] [wF u2.1 cJ 5 u2.2.2.1, wF u2.2.1 cJ 0 u2.2.2.2, wR u2.2.2.1 cI z0 sp0] rfl rfl (by decide)) ?_
  refine z_weq (ws' := (wQ q tr go T) ++ (wF tr cJ 5 ra) ++ (wR ra cI b r) ++ (wF go cJ n ga) ++ (wG ga cI sw st fa sc fi mi n) ++ (wQ q1 tr q5 T) ++ (wFm q5 cJ n 0 ga) ++ (wG ga cI sw st fa sc fi mi 0)) ((List.append_nil _).symm) ?_
  refine z_lv [2, 1, 0] (lv' := [(0, .ref q), (1, .ref q1), (2, .int (nI 0))]) rfl ?_
  refine z_loopS (σ := Nat → Nat) n 0 (fun i u => True) (fun i u => (wQ q tr go T) ++ (wF tr cJ 5 ra) ++ (wR ra cI b r) ++ (wF go cJ n ga) ++ (wG ga cI sw st fa sc fi mi n) ++ (wQ q1 tr q5 T) ++ (wFm q5 cJ n i u) ++ (wG u cI sw st fa sc fi mi i)) (fun i u => [(0, .ref q), (1, .ref q1), (2, .int (nI i))]) (fun i => 0 + 1 + 7 + 1 + i) (fun i => 0 + 3 + 15 + n + 6 * i) ga (by omega) (trivial) rfl rfl (by omega) (by omega) (fun i u hi0 hi1 hu ih => ?_)
  refine z_iload_n (n := 39) hC dX3_copy_38 rfl 2 rfl rfl ?_
  refine z_aload_n (n := 40) hC dX3_copy_39 rfl 0 rfl rfl ?_
  refine gy_X3_15 (v := .ref go) (n := 43) hC (MW.l (MW.l (MW.l (MW.l (MW.l (MW.l (MW.l (MW.at 0 rfl)))))))) rfl dX3_copy_40 rfl ?_
  refine y_alen (v := nI n) (n := 44) hC 2 (MW.l (MW.l (MW.l (MW.l (MW.r (MW.at 0 rfl)))))) rfl rfl dX3_copy_43 rfl ?_
  refine z_icmp_ge_n (tgt := 71) (n := 47) hC i n rfl rfl (by omega) (by omega) dX3_copy_44 (by decide) rfl (fun c6 => ?_) (fun c6 => ?_)
  · obtain rfl : n = i := by omega
    refine z_weq (ws' := (wQ q tr go T) ++ (wF tr cJ 5 ra) ++ (wR ra cI b r) ++ (wF go cJ n ga) ++ (wG ga cI sw st fa sc fi mi n) ++ (wQ q1 tr q5 T) ++ (wF q5 cJ n u) ++ (wG u cI sw st fa sc fi mi n)) (rfl) ?_
    refine z_aload_n (n := 72) hC dX3_copy_71 rfl 1 rfl rfl ?_
    refine z_aret hC hr (Or.inl ⟨_, rfl⟩) hlocks (q1, q5, u) ?_ rfl rfl dX3_copy_72 (by omega) (by omega)
    trivial
  · refine z_aload_n (n := 48) hC dX3_copy_47 rfl 1 rfl rfl ?_
    refine gy_X3_15 (v := .ref q5) (n := 51) hC (MW.l (MW.l (MW.r (MW.at 0 rfl)))) rfl dX3_copy_48 rfl ?_
    refine z_iload_n (n := 52) hC dX3_copy_51 rfl 2 rfl rfl ?_
    refine z_aload_n (n := 53) hC dX3_copy_52 rfl 0 rfl rfl ?_
    refine gy_X3_15 (v := .ref go) (n := 56) hC (MW.l (MW.l (MW.l (MW.l (MW.l (MW.l (MW.l (MW.at 0 rfl)))))))) rfl dX3_copy_53 rfl ?_
    refine z_iload_n (n := 57) hC dX3_copy_56 rfl 2 rfl rfl ?_
    refine y_qald (v := ga i) (n := 58) hC 2 i (MW.l (MW.l (MW.l (MW.l (MW.r (MW.at 0 rfl)))))) rfl rfl (by omega) (by omega) (rfF_at (by omega)) dX3_copy_57 rfl ?_
    refine y_clone (n := 61) (ws2 := fun q7 => (wQ q tr go T) ++ (wF tr cJ 5 ra) ++ (wR ra cI b r) ++ (wF go cJ n ga) ++ (wG ga cI sw st fa sc fi mi n) ++ (wQ q1 tr q5 T) ++ (wFm q5 cJ n i u) ++ (wG u cI sw st fa sc fi mi i) ++ (wI q7 cI 6 (gR sw st fa sc fi mi i))) hC 0 (MW.l (MW.l (MW.l (MW.r (MW.pool i (by omega)))))) rfl q292 q429 q430 q431 q432 (by decide) (Nat.le_of_ble_eq_true rfl) (by show 0 + 1 + 7 + 1 + i + 1 ≤ 16; omega) (by show 0 + 3 + 15 + n + 6 * i + 6 ≤ 64; omega) dX3_copy_58 (fun _ => rfl) rfl (fun q7 => ?_)
    refine y_cast (n := 64) hC 0 (MW.r (MW.at 0 rfl)) rfl q413 dX3_copy_61 rfl ?_
    refine y_qast (ws' := (wQ q tr go T) ++ (wF tr cJ 5 ra) ++ (wR ra cI b r) ++ (wF go cJ n ga) ++ (wG ga cI sw st fa sc fi mi n) ++ (wQ q1 tr q5 T) ++ (wFm q5 cJ n (i + 1) (updA u i q7)) ++ (wG u cI sw st fa sc fi mi i) ++ (wI q7 cI 6 (gR sw st fa sc fi mi i))) (n := 65) hC 2 0 i rfl rfl (MW.r (MW.at 0 rfl)) rfl (by omega) (by omega) rfF_put (PW.l (PW.l (PW.r (PW.at 0 rfl rfl)))) dX3_copy_64 rfl ?_
    refine z_iinc (k0 := 2) (v := nI (i + 1)) (lv' := [(2, .int (nI (i + 1))), (0, .ref q), (1, .ref q1)]) (n := 68) hC dX3_copy_65 rfl (nI_add i 1) (by decide) rfl rfl ?_
    refine z_goto (n := 38) hC dX3_copy_68 (by decide) ?_
    refine z_lv [1, 2, 0] (lv' := [(0, .ref q), (1, .ref q1), (2, .int (nI (i + 1)))]) rfl ?_
    refine z_weq (ws' := (wQ q tr go T) ++ (wF tr cJ 5 ra) ++ (wR ra cI b r) ++ (wF go cJ n ga) ++ (wG ga cI sw st fa sc fi mi n) ++ (wQ q1 tr q5 T) ++ (wFm q5 cJ n (i + 1) (updA u i q7)) ++ (wG (updA u i q7) cI sw st fa sc fi mi (i + 1))) (copy_push) ?_
    refine z_widen (k1 := (0 + 1 + 7 + 1 + (i + 1))) (k2 := (0 + 3 + 15 + n + 6 * (i + 1))) (by omega) (by omega) ?_
    exact ih (i + 1) (updA u i q7) (by omega) (by omega) trivial
