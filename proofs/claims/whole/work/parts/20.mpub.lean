set_option maxRecDepth 100000 in
set_option maxHeartbeats 4000000 in
theorem k_X3_isFrom_t (l : Launch) (G : va_G) (cI cZ cJ : ClassId) (x : Int32) (y : Int32) (z : Int32) (h1 : ¬ x < y) (h2 : ¬ z < x) : MB (Unit) l yX3_isFrom cX3_isFrom 3 0 0 G (tY cI cZ cJ) [.int x, .int y, .int z] ([]) (fun zr _ => zr = bN true) (fun _ => []) 0 0 := by
  refine MB_of (by decide) (Nat.le_of_ble_eq_true rfl) [(0, .int x), (1, .int y), (2, .int z)] rfl ?_
  intro p e s m below meth c hC hr hlocks hname
  have hC : Cx p s m _ c cX3_isFrom 3 RX3 G (tY cI cZ cJ) _ := hC
  refine z_iload_n (n := 1) hC dX3_isFrom_0 rfl 0 rfl rfl ?_
  refine z_iload_n (n := 2) hC dX3_isFrom_1 rfl 1 rfl rfl ?_
  refine z_icmp_lt (tgt := 14) (n := 5) hC dX3_isFrom_2 (by decide) rfl (fun c1 => absurd c1 h1) (fun c1 => ?_)
  refine z_iload_n (n := 6) hC dX3_isFrom_5 rfl 0 rfl rfl ?_
  refine z_iload_n (n := 7) hC dX3_isFrom_6 rfl 2 rfl rfl ?_
  refine z_icmp_gt (tgt := 14) (n := 10) hC dX3_isFrom_7 (by decide) rfl (fun c2 => absurd c2 h2) (fun c2 => ?_)
  refine z_iconst (v := nI 1) (n := 11) hC dX3_isFrom_10 (by decide) rfl ?_
  refine z_goto (n := 15) hC dX3_isFrom_11 (by decide) ?_
  refine z_zret hC hr hlocks () ?_ rfl dX3_isFrom_15 (by omega) (by omega)
  exact ⟨narr_b (b := true), rfl⟩

set_option maxRecDepth 100000 in
set_option maxHeartbeats 4000000 in
theorem k_X3_isFrom_f (l : Launch) (G : va_G) (cI cZ cJ : ClassId) (x : Int32) (y : Int32) (z : Int32) (hb : x < y ∨ z < x) : MB (Unit) l yX3_isFrom cX3_isFrom 3 0 0 G (tY cI cZ cJ) [.int x, .int y, .int z] ([]) (fun zr _ => zr = bN false) (fun _ => []) 0 0 := by
  refine MB_of (by decide) (Nat.le_of_ble_eq_true rfl) [(0, .int x), (1, .int y), (2, .int z)] rfl ?_
  intro p e s m below meth c hC hr hlocks hname
  have hC : Cx p s m _ c cX3_isFrom 3 RX3 G (tY cI cZ cJ) _ := hC
  refine z_iload_n (n := 1) hC dX3_isFrom_0 rfl 0 rfl rfl ?_
  refine z_iload_n (n := 2) hC dX3_isFrom_1 rfl 1 rfl rfl ?_
  refine z_icmp_lt (tgt := 14) (n := 5) hC dX3_isFrom_2 (by decide) rfl (fun c1 => ?_) (fun c1 => ?_)
  · refine z_iconst (v := nI 0) (n := 15) hC dX3_isFrom_14 (by decide) rfl ?_
    refine z_zret hC hr hlocks () ?_ rfl dX3_isFrom_15 (by omega) (by omega)
    exact ⟨narr_b (b := false), rfl⟩
  · refine z_iload_n (n := 6) hC dX3_isFrom_5 rfl 0 rfl rfl ?_
    refine z_iload_n (n := 7) hC dX3_isFrom_6 rfl 2 rfl rfl ?_
    refine z_icmp_gt (tgt := 14) (n := 10) hC dX3_isFrom_7 (by decide) rfl (fun c2 => ?_) (fun c2 => ?_)
    · refine z_iconst (v := nI 0) (n := 15) hC dX3_isFrom_14 (by decide) rfl ?_
      refine z_zret hC hr hlocks () ?_ rfl dX3_isFrom_15 (by omega) (by omega)
      exact ⟨narr_b (b := false), rfl⟩
    · refine z_iconst (v := nI 1) (n := 11) hC dX3_isFrom_10 (by decide) rfl ?_
      refine z_goto (n := 15) hC dX3_isFrom_11 (by decide) ?_
      refine z_zret hC hr hlocks () ?_ rfl dX3_isFrom_15 (by omega) (by omega)
      exact (hb.elim (fun h => c1 h) (fun h => c2 h)).elim

set_option maxRecDepth 100000 in
set_option maxHeartbeats 4000000 in
theorem k_X3_isGun_t (l : Launch) (G : va_G) (cI cZ cJ : ClassId) (ma : Nat → Nat) (th : Int32) (n : Nat) (sw : Nat → Int32) (st : Nat → Int32) (b : Nat → Int32) (r : Nat → Int32) (T : Nat) (sc : Nat → Int32) (fi : Nat → Int32) (mi : Nat → Int32) (fa : Nat → Int32) (K : Nat → Int32) (g : Nat) (hn : n ≤ 6) (hg : g < n) : MB (Unit) l yX3_isGun cX3_isGun 2 1 22 G (tY cI cZ cJ) [.ref (ma 0), .int (nI g)] (wN ma cI th n sw st b r T sc fi mi fa K) (fun zr _ => zr = bN true) (fun _ => wN ma cI th n sw st b r T sc fi mi fa K) 0 0 := by
  refine MB_of (by decide) (Nat.le_of_ble_eq_true rfl) [(0, .ref (ma 0)), (1, .int (nI g))] rfl ?_
  intro p e s m below meth c hC hr hlocks hname
  have hC : Cx p s m _ c cX3_isGun 2 RX3 G (tY cI cZ cJ) _ := hC
  refine z_iload_n (n := 1) hC dX3_isGun_0 rfl 1 rfl rfl ?_
  refine z_iconst (v := nI 0) (n := 2) hC dX3_isGun_1 (by decide) rfl ?_
  refine z_aload_n (n := 3) hC dX3_isGun_2 rfl 0 rfl rfl ?_
  refine gf_X3_32 (v := .int (nI n)) (n := 6) hC 0 rfl rfl dX3_isGun_3 rfl ?_
  refine z_iconst (v := nI 1) (n := 7) hC dX3_isGun_6 (by decide) rfl ?_
  refine z_isub (v := nI (n - 1)) (n := 8) hC dX3_isGun_7 (pk_sub (by omega)) rfl ?_
  refine z_callsb (R := { frames := 1, cells := 0, slots := 0, locals := 22 }) (cells := 0) (slots := 0) (ws := wN ma cI th n sw st b r T sc fi mi fa K) (n := 11) (As := [.int (nI g), .int (nI 0), .int (nI (n - 1))]) (rest := []) hC (k_X3_isFrom_t l G cI cZ cJ (nI g) (nI 0) (nI (n - 1)) (nI_nlt (Nat.zero_le g) (by omega)) (nI_nlt (by omega) (by omega))) kg_X3_35 kd_yX3_isFrom dX3_isGun_8 ⟨Nat.le_of_ble_eq_true rfl, Nat.le_of_ble_eq_true rfl⟩ [] rfl (by decide) rfl (Nat.le_of_ble_eq_true rfl) ⟨Nat.le_of_ble_eq_true rfl, Nat.le_of_ble_eq_true rfl⟩ (ws2 := fun u1 => wN ma cI th n sw st b r T sc fi mi fa K) [0, 1, 2, 3, 4, 5, 6] (fun _ => rfl) (wN ma cI th n sw st b r T sc fi mi fa K) (fun _ => rfl) rfl (fun _ => rfl) [] (fun _ => rfl) rfl rfl rfl (fun r2 u1 h3 => ?_)
  subst h3
  refine z_zret hC hr hlocks () ?_ rfl dX3_isGun_11 (by omega) (by omega)
  exact ⟨narr_b (b := true), rfl⟩

set_option maxRecDepth 100000 in
set_option maxHeartbeats 4000000 in
theorem k_X3_isGun_f (l : Launch) (G : va_G) (cI cZ cJ : ClassId) (ma : Nat → Nat) (th : Int32) (n : Nat) (sw : Nat → Int32) (st : Nat → Int32) (b : Nat → Int32) (r : Nat → Int32) (T : Nat) (sc : Nat → Int32) (fi : Nat → Int32) (mi : Nat → Int32) (fa : Nat → Int32) (K : Nat → Int32) (x : Int32) (hn : n ≤ 6) (hb : x < 0 ∨ nI n ≤ x) : MB (Unit) l yX3_isGun cX3_isGun 2 1 22 G (tY cI cZ cJ) [.ref (ma 0), .int x] (wN ma cI th n sw st b r T sc fi mi fa K) (fun zr _ => zr = bN false) (fun _ => wN ma cI th n sw st b r T sc fi mi fa K) 0 0 := by
  refine MB_of (by decide) (Nat.le_of_ble_eq_true rfl) [(0, .ref (ma 0)), (1, .int x)] rfl ?_
  intro p e s m below meth c hC hr hlocks hname
  have hC : Cx p s m _ c cX3_isGun 2 RX3 G (tY cI cZ cJ) _ := hC
  refine z_iload_n (n := 1) hC dX3_isGun_0 rfl 1 rfl rfl ?_
  refine z_iconst (v := nI 0) (n := 2) hC dX3_isGun_1 (by decide) rfl ?_
  refine z_aload_n (n := 3) hC dX3_isGun_2 rfl 0 rfl rfl ?_
  refine gf_X3_32 (v := .int (nI n)) (n := 6) hC 0 rfl rfl dX3_isGun_3 rfl ?_
  refine z_iconst (v := nI 1) (n := 7) hC dX3_isGun_6 (by decide) rfl ?_
  refine z_isub (v := nI n - nI 1) (n := 8) hC dX3_isGun_7 rfl rfl ?_
  refine z_callsb (R := { frames := 1, cells := 0, slots := 0, locals := 22 }) (cells := 0) (slots := 0) (ws := wN ma cI th n sw st b r T sc fi mi fa K) (n := 11) (As := [.int x, .int (nI 0), .int (nI n - nI 1)]) (rest := []) hC (k_X3_isFrom_f l G cI cZ cJ x (nI 0) (nI n - nI 1) (bad_gun hn hb)) kg_X3_35 kd_yX3_isFrom dX3_isGun_8 ⟨Nat.le_of_ble_eq_true rfl, Nat.le_of_ble_eq_true rfl⟩ [] rfl (by decide) rfl (Nat.le_of_ble_eq_true rfl) ⟨Nat.le_of_ble_eq_true rfl, Nat.le_of_ble_eq_true rfl⟩ (ws2 := fun u1 => wN ma cI th n sw st b r T sc fi mi fa K) [0, 1, 2, 3, 4, 5, 6] (fun _ => rfl) (wN ma cI th n sw st b r T sc fi mi fa K) (fun _ => rfl) rfl (fun _ => rfl) [] (fun _ => rfl) rfl rfl rfl (fun r2 u1 h3 => ?_)
  subst h3
  refine z_zret hC hr hlocks () ?_ rfl dX3_isGun_11 (by omega) (by omega)
  exact ⟨narr_b (b := false), rfl⟩

set_option maxRecDepth 100000 in
set_option maxHeartbeats 4000000 in
theorem k_X3_standOf (l : Launch) (G : va_G) (cI cZ cJ : ClassId) (ma : Nat → Nat) (th : Int32) (n : Nat) (sw : Nat → Int32) (st : Nat → Int32) (b : Nat → Int32) (r : Nat → Int32) (T : Nat) (sc : Nat → Int32) (fi : Nat → Int32) (mi : Nat → Int32) (fa : Nat → Int32) (K : Nat → Int32) (g : Nat) (hn : n ≤ 6) (hT : T + 200 < 2 ^ 29) (hg : g < n) (hst : ∀ g, g < n → nI 1 ≤ st g) : MI (Unit) l yX3_standOf cX3_standOf 2 2 43 G (tY cI cZ cJ) [.ref (ma 0), .int (nI g)] (wN ma cI th n sw st b r T sc fi mi fa K) (fun zr _ => zr = nI (stF T g)) (fun _ => wN ma cI (nI 0) n sw st b r T sc fi mi fa K) 0 0 := by
  refine MI_of (by decide) (Nat.le_of_ble_eq_true rfl) [(0, .ref (ma 0)), (1, .int (nI g))] rfl ?_
  intro p e s m below meth c hC hr hlocks hname
  have hC : Cx p s m _ c cX3_standOf 2 RX3 G (tY cI cZ cJ) _ := hC
  refine z_aload_n (n := 1) hC dX3_standOf_0 rfl 0 rfl rfl ?_
  refine z_iconst (v := nI 0) (n := 2) hC dX3_standOf_1 (by decide) rfl ?_
  refine pf_X3_28 (ws' := wN ma cI (nI 0) n sw st b r T sc fi mi fa K) (n := 5) hC 0 rfl (Nat.le_of_ble_eq_true rfl) dX3_standOf_2 rfl rfl ?_
  refine z_aload_n (n := 6) hC dX3_standOf_5 rfl 0 rfl rfl ?_
  refine z_iload_n (n := 7) hC dX3_standOf_6 rfl 1 rfl rfl ?_
  refine z_callb (R := { frames := 2, cells := 0, slots := 0, locals := 43 }) (cells := 0) (slots := 0) (ws := wN ma cI (nI 0) n sw st b r T sc fi mi fa K) (n := 10) (As := [.int (nI g)]) (rest := []) hC (k_X3_isGun_t l G cI cZ cJ ma (nI 0) n sw st b r T sc fi mi fa K g (by omega) hg) kg_X3_95 kd_yX3_isGun dX3_standOf_7 ⟨Nat.le_of_ble_eq_true rfl, Nat.le_of_ble_eq_true rfl⟩ 0 rfl rfl rfl [0, 1, 2, 3, 4, 5, 6] rfl (by decide) rfl (Nat.le_of_ble_eq_true rfl) ⟨Nat.le_of_ble_eq_true rfl, Nat.le_of_ble_eq_true rfl⟩ (ws2 := fun u1 => wN ma cI (nI 0) n sw st b r T sc fi mi fa K) [] (fun _ => rfl) ([]) (fun _ => rfl) rfl (fun _ => rfl) [ma 0, ma 1, ma 2, ma 3, ma 4, ma 5, ma 6] (fun _ => rfl) rfl rfl rfl (fun r2 u1 h3 => ?_)
  subst h3
  refine z_if_eq_b (tgt := 21) (n := 13) hC true rfl dX3_standOf_10 (by decide) rfl (fun c4 => absurd c4 (by decide)) (fun c4 => ?_)
  refine z_aload_n (n := 14) hC dX3_standOf_13 rfl 0 rfl rfl ?_
  refine z_iload_n (n := 15) hC dX3_standOf_14 rfl 1 rfl rfl ?_
  refine z_calli (R := { frames := 2, cells := 0, slots := 0, locals := 43 }) (cells := 0) (slots := 0) (ws := wN ma cI (nI 0) n sw st b r T sc fi mi fa K) (n := 18) (As := [.int (nI g)]) (rest := []) hC (k_X3_stand l G cI cZ cJ ma (nI 0) n sw st b r T sc fi mi fa K g (by omega) (by omega) (by omega)) kg_X3_45 kd_yX3_stand dX3_standOf_15 ⟨Nat.le_of_ble_eq_true rfl, Nat.le_of_ble_eq_true rfl⟩ 0 rfl rfl rfl [0, 1, 2, 3, 4, 5, 6] rfl (by decide) rfl (Nat.le_of_ble_eq_true rfl) ⟨Nat.le_of_ble_eq_true rfl, Nat.le_of_ble_eq_true rfl⟩ (ws2 := fun u5 => wN ma cI (nI 0) n sw st b r T sc fi mi fa K) [] (fun _ => rfl) ([]) (fun _ => rfl) rfl (fun _ => rfl) [ma 0, ma 1, ma 2, ma 3, ma 4, ma 5, ma 6] (fun _ => rfl) rfl rfl rfl (fun r6 u5 h7 => ?_)
  subst h7
  refine z_goto (n := 26) hC dX3_standOf_18 (by decide) ?_
  refine z_iret hC hr hlocks () ?_ rfl dX3_standOf_26 (by omega) (by omega)
  rfl

set_option maxRecDepth 100000 in
set_option maxHeartbeats 4000000 in
theorem k_X3_standOf_x (l : Launch) (G : va_G) (cI cZ cJ : ClassId) (ma : Nat → Nat) (th : Int32) (n : Nat) (sw : Nat → Int32) (st : Nat → Int32) (b : Nat → Int32) (r : Nat → Int32) (T : Nat) (sc : Nat → Int32) (fi : Nat → Int32) (mi : Nat → Int32) (fa : Nat → Int32) (K : Nat → Int32) (x : Int32) (hn : n ≤ 6) (hT : T + 200 < 2 ^ 29) (hb : x < 0 ∨ nI n ≤ x) : MI (Unit) l yX3_standOf cX3_standOf 2 2 43 G (tY cI cZ cJ) [.ref (ma 0), .int x] (wN ma cI th n sw st b r T sc fi mi fa K) (fun zr _ => zr = nI 0) (fun _ => wN ma cI (nI 1) n sw st b r T sc fi mi fa K) 0 0 := by
  refine MI_of (by decide) (Nat.le_of_ble_eq_true rfl) [(0, .ref (ma 0)), (1, .int x)] rfl ?_
  intro p e s m below meth c hC hr hlocks hname
  have hC : Cx p s m _ c cX3_standOf 2 RX3 G (tY cI cZ cJ) _ := hC
  refine z_aload_n (n := 1) hC dX3_standOf_0 rfl 0 rfl rfl ?_
  refine z_iconst (v := nI 0) (n := 2) hC dX3_standOf_1 (by decide) rfl ?_
  refine pf_X3_28 (ws' := wN ma cI (nI 0) n sw st b r T sc fi mi fa K) (n := 5) hC 0 rfl (Nat.le_of_ble_eq_true rfl) dX3_standOf_2 rfl rfl ?_
  refine z_aload_n (n := 6) hC dX3_standOf_5 rfl 0 rfl rfl ?_
  refine z_iload_n (n := 7) hC dX3_standOf_6 rfl 1 rfl rfl ?_
  refine z_callb (R := { frames := 2, cells := 0, slots := 0, locals := 43 }) (cells := 0) (slots := 0) (ws := wN ma cI (nI 0) n sw st b r T sc fi mi fa K) (n := 10) (As := [.int x]) (rest := []) hC (k_X3_isGun_f l G cI cZ cJ ma (nI 0) n sw st b r T sc fi mi fa K x (by omega) hb) kg_X3_95 kd_yX3_isGun dX3_standOf_7 ⟨Nat.le_of_ble_eq_true rfl, Nat.le_of_ble_eq_true rfl⟩ 0 rfl rfl rfl [0, 1, 2, 3, 4, 5, 6] rfl (by decide) rfl (Nat.le_of_ble_eq_true rfl) ⟨Nat.le_of_ble_eq_true rfl, Nat.le_of_ble_eq_true rfl⟩ (ws2 := fun u1 => wN ma cI (nI 0) n sw st b r T sc fi mi fa K) [] (fun _ => rfl) ([]) (fun _ => rfl) rfl (fun _ => rfl) [ma 0, ma 1, ma 2, ma 3, ma 4, ma 5, ma 6] (fun _ => rfl) rfl rfl rfl (fun r2 u1 h3 => ?_)
  subst h3
  refine z_if_eq_b (tgt := 21) (n := 13) hC false rfl dX3_standOf_10 (by decide) rfl (fun c4 => ?_) (fun c4 => absurd c4 (by decide))
  refine z_aload_n (n := 22) hC dX3_standOf_21 rfl 0 rfl rfl ?_
  refine z_iconst (v := nI 1) (n := 23) hC dX3_standOf_22 (by decide) rfl ?_
  refine z_calli (R := { frames := 2, cells := 0, slots := 0, locals := 43 }) (cells := 0) (slots := 0) (ws := wN ma cI (nI 0) n sw st b r T sc fi mi fa K) (n := 26) (As := [.int (nI 1)]) (rest := []) hC (k_X3_no l G cI cZ cJ ma (nI 0) n sw st b r T sc fi mi fa K (nI 1) (by omega) (by omega)) kg_X3_92 kd_yX3_no dX3_standOf_23 ⟨Nat.le_of_ble_eq_true rfl, Nat.le_of_ble_eq_true rfl⟩ 0 rfl rfl rfl [0, 1, 2, 3, 4, 5, 6] rfl (by decide) rfl (Nat.le_of_ble_eq_true rfl) ⟨Nat.le_of_ble_eq_true rfl, Nat.le_of_ble_eq_true rfl⟩ (ws2 := fun u5 => wN ma cI (nI 1) n sw st b r T sc fi mi fa K) [] (fun _ => rfl) ([]) (fun _ => rfl) rfl (fun _ => rfl) [ma 0, ma 1, ma 2, ma 3, ma 4, ma 5, ma 6] (fun _ => rfl) rfl rfl rfl (fun r6 u5 h7 => ?_)
  subst h7
  refine z_iret hC hr hlocks () ?_ rfl dX3_standOf_26 (by omega) (by omega)
  rfl

set_option maxRecDepth 100000 in
set_option maxHeartbeats 4000000 in
theorem k_X3_angleFor (l : Launch) (G : va_G) (cI cZ cJ : ClassId) (ma : Nat → Nat) (th : Int32) (n : Nat) (sw : Nat → Int32) (st : Nat → Int32) (b : Nat → Int32) (r : Nat → Int32) (T : Nat) (sc : Nat → Int32) (fi : Nat → Int32) (mi : Nat → Int32) (fa : Nat → Int32) (K : Nat → Int32) (g : Nat) (hn : n ≤ 6) (hT : T + 200 < 2 ^ 29) (hg : g < n) (hst : ∀ g, g < n → nI 1 ≤ st g) : MI (Unit) l yX3_angleFor cX3_angleFor 2 2 43 G (tY cI cZ cJ) [.ref (ma 0), .int (nI g)] (wN ma cI th n sw st b r T sc fi mi fa K) (fun zr _ => zr = angF b r (stF T g) (T % 5)) (fun _ => wN ma cI (nI 0) n sw st b r T sc fi mi fa K) 0 0 := by
  refine MI_of (by decide) (Nat.le_of_ble_eq_true rfl) [(0, .ref (ma 0)), (1, .int (nI g))] rfl ?_
  intro p e s m below meth c hC hr hlocks hname
  have hC : Cx p s m _ c cX3_angleFor 2 RX3 G (tY cI cZ cJ) _ := hC
  refine z_aload_n (n := 1) hC dX3_angleFor_0 rfl 0 rfl rfl ?_
  refine z_iconst (v := nI 0) (n := 2) hC dX3_angleFor_1 (by decide) rfl ?_
  refine pf_X3_28 (ws' := wN ma cI (nI 0) n sw st b r T sc fi mi fa K) (n := 5) hC 0 rfl (Nat.le_of_ble_eq_true rfl) dX3_angleFor_2 rfl rfl ?_
  refine z_aload_n (n := 6) hC dX3_angleFor_5 rfl 0 rfl rfl ?_
  refine z_iload_n (n := 7) hC dX3_angleFor_6 rfl 1 rfl rfl ?_
  refine z_callb (R := { frames := 2, cells := 0, slots := 0, locals := 43 }) (cells := 0) (slots := 0) (ws := wN ma cI (nI 0) n sw st b r T sc fi mi fa K) (n := 10) (As := [.int (nI g)]) (rest := []) hC (k_X3_isGun_t l G cI cZ cJ ma (nI 0) n sw st b r T sc fi mi fa K g (by omega) hg) kg_X3_95 kd_yX3_isGun dX3_angleFor_7 ⟨Nat.le_of_ble_eq_true rfl, Nat.le_of_ble_eq_true rfl⟩ 0 rfl rfl rfl [0, 1, 2, 3, 4, 5, 6] rfl (by decide) rfl (Nat.le_of_ble_eq_true rfl) ⟨Nat.le_of_ble_eq_true rfl, Nat.le_of_ble_eq_true rfl⟩ (ws2 := fun u1 => wN ma cI (nI 0) n sw st b r T sc fi mi fa K) [] (fun _ => rfl) ([]) (fun _ => rfl) rfl (fun _ => rfl) [ma 0, ma 1, ma 2, ma 3, ma 4, ma 5, ma 6] (fun _ => rfl) rfl rfl rfl (fun r2 u1 h3 => ?_)
  subst h3
  refine z_if_eq_b (tgt := 29) (n := 13) hC true rfl dX3_angleFor_10 (by decide) rfl (fun c4 => absurd c4 (by decide)) (fun c4 => ?_)
  refine z_aload_n (n := 14) hC dX3_angleFor_13 rfl 0 rfl rfl ?_
  refine z_aload_n (n := 15) hC dX3_angleFor_14 rfl 0 rfl rfl ?_
  refine z_iload_n (n := 16) hC dX3_angleFor_15 rfl 1 rfl rfl ?_
  refine z_calli (R := { frames := 2, cells := 0, slots := 0, locals := 43 }) (cells := 0) (slots := 0) (ws := wN ma cI (nI 0) n sw st b r T sc fi mi fa K) (n := 19) (As := [.int (nI g)]) (rest := [.ref (ma 0)]) hC (k_X3_stand l G cI cZ cJ ma (nI 0) n sw st b r T sc fi mi fa K g (by omega) (by omega) (by omega)) kg_X3_45 kd_yX3_stand dX3_angleFor_16 ⟨Nat.le_of_ble_eq_true rfl, Nat.le_of_ble_eq_true rfl⟩ 0 rfl rfl rfl [0, 1, 2, 3, 4, 5, 6] rfl (by decide) rfl (Nat.le_of_ble_eq_true rfl) ⟨Nat.le_of_ble_eq_true rfl, Nat.le_of_ble_eq_true rfl⟩ (ws2 := fun u5 => wN ma cI (nI 0) n sw st b r T sc fi mi fa K) [] (fun _ => rfl) ([]) (fun _ => rfl) rfl (fun _ => rfl) [ma 0, ma 1, ma 2, ma 3, ma 4, ma 5, ma 6] (fun _ => rfl) rfl rfl rfl (fun r6 u5 h7 => ?_)
  subst h7
  refine z_aload_n (n := 20) hC dX3_angleFor_19 rfl 0 rfl rfl ?_
  refine z_calli (R := { frames := 2, cells := 0, slots := 0, locals := 43 }) (cells := 0) (slots := 0) (ws := wN ma cI (nI 0) n sw st b r T sc fi mi fa K) (n := 23) (As := []) (rest := [.int (nI (stF T g)), .ref (ma 0)]) hC (k_X3_clay l G cI cZ cJ ma (nI 0) n sw st b r T sc fi mi fa K (by omega) (by omega)) kg_X3_49 kd_yX3_clay dX3_angleFor_20 ⟨Nat.le_of_ble_eq_true rfl, Nat.le_of_ble_eq_true rfl⟩ 0 rfl rfl rfl [0, 1, 2, 3, 4, 5, 6] rfl (by decide) rfl (Nat.le_of_ble_eq_true rfl) ⟨Nat.le_of_ble_eq_true rfl, Nat.le_of_ble_eq_true rfl⟩ (ws2 := fun u8 => wN ma cI (nI 0) n sw st b r T sc fi mi fa K) [] (fun _ => rfl) ([]) (fun _ => rfl) rfl (fun _ => rfl) [ma 0, ma 1, ma 2, ma 3, ma 4, ma 5, ma 6] (fun _ => rfl) rfl rfl rfl (fun r9 u8 h10 => ?_)
  subst h10
  refine z_calli (R := { frames := 2, cells := 0, slots := 0, locals := 43 }) (cells := 0) (slots := 0) (ws := wN ma cI (nI 0) n sw st b r T sc fi mi fa K) (n := 26) (As := [.int (nI (stF T g)), .int (nI (T % 5))]) (rest := []) hC (k_X3_at l G cI cZ cJ ma (nI 0) n sw st b r T sc fi mi fa K (stF T g) (T % 5) (by omega) (by omega) (Nat.mod_lt _ (by decide))) kg_X3_53 kd_yX3_at dX3_angleFor_23 ⟨Nat.le_of_ble_eq_true rfl, Nat.le_of_ble_eq_true rfl⟩ 0 rfl rfl rfl [0, 1, 2, 3, 4, 5, 6] rfl (by decide) rfl (Nat.le_of_ble_eq_true rfl) ⟨Nat.le_of_ble_eq_true rfl, Nat.le_of_ble_eq_true rfl⟩ (ws2 := fun u11 => wN ma cI (nI 0) n sw st b r T sc fi mi fa K) [] (fun _ => rfl) ([]) (fun _ => rfl) rfl (fun _ => rfl) [ma 0, ma 1, ma 2, ma 3, ma 4, ma 5, ma 6] (fun _ => rfl) rfl rfl rfl (fun r12 u11 h13 => ?_)
  subst h13
  refine z_goto (n := 34) hC dX3_angleFor_26 (by decide) ?_
  refine z_iret hC hr hlocks () ?_ rfl dX3_angleFor_34 (by omega) (by omega)
  rfl

set_option maxRecDepth 100000 in
set_option maxHeartbeats 4000000 in
theorem k_X3_angleFor_x (l : Launch) (G : va_G) (cI cZ cJ : ClassId) (ma : Nat → Nat) (th : Int32) (n : Nat) (sw : Nat → Int32) (st : Nat → Int32) (b : Nat → Int32) (r : Nat → Int32) (T : Nat) (sc : Nat → Int32) (fi : Nat → Int32) (mi : Nat → Int32) (fa : Nat → Int32) (K : Nat → Int32) (x : Int32) (hn : n ≤ 6) (hT : T + 200 < 2 ^ 29) (hb : x < 0 ∨ nI n ≤ x) : MI (Unit) l yX3_angleFor cX3_angleFor 2 2 43 G (tY cI cZ cJ) [.ref (ma 0), .int x] (wN ma cI th n sw st b r T sc fi mi fa K) (fun zr _ => zr = nI 0) (fun _ => wN ma cI (nI 1) n sw st b r T sc fi mi fa K) 0 0 := by
  refine MI_of (by decide) (Nat.le_of_ble_eq_true rfl) [(0, .ref (ma 0)), (1, .int x)] rfl ?_
  intro p e s m below meth c hC hr hlocks hname
  have hC : Cx p s m _ c cX3_angleFor 2 RX3 G (tY cI cZ cJ) _ := hC
  refine z_aload_n (n := 1) hC dX3_angleFor_0 rfl 0 rfl rfl ?_
  refine z_iconst (v := nI 0) (n := 2) hC dX3_angleFor_1 (by decide) rfl ?_
  refine pf_X3_28 (ws' := wN ma cI (nI 0) n sw st b r T sc fi mi fa K) (n := 5) hC 0 rfl (Nat.le_of_ble_eq_true rfl) dX3_angleFor_2 rfl rfl ?_
  refine z_aload_n (n := 6) hC dX3_angleFor_5 rfl 0 rfl rfl ?_
  refine z_iload_n (n := 7) hC dX3_angleFor_6 rfl 1 rfl rfl ?_
  refine z_callb (R := { frames := 2, cells := 0, slots := 0, locals := 43 }) (cells := 0) (slots := 0) (ws := wN ma cI (nI 0) n sw st b r T sc fi mi fa K) (n := 10) (As := [.int x]) (rest := []) hC (k_X3_isGun_f l G cI cZ cJ ma (nI 0) n sw st b r T sc fi mi fa K x (by omega) hb) kg_X3_95 kd_yX3_isGun dX3_angleFor_7 ⟨Nat.le_of_ble_eq_true rfl, Nat.le_of_ble_eq_true rfl⟩ 0 rfl rfl rfl [0, 1, 2, 3, 4, 5, 6] rfl (by decide) rfl (Nat.le_of_ble_eq_true rfl) ⟨Nat.le_of_ble_eq_true rfl, Nat.le_of_ble_eq_true rfl⟩ (ws2 := fun u1 => wN ma cI (nI 0) n sw st b r T sc fi mi fa K) [] (fun _ => rfl) ([]) (fun _ => rfl) rfl (fun _ => rfl) [ma 0, ma 1, ma 2, ma 3, ma 4, ma 5, ma 6] (fun _ => rfl) rfl rfl rfl (fun r2 u1 h3 => ?_)
  subst h3
  refine z_if_eq_b (tgt := 29) (n := 13) hC false rfl dX3_angleFor_10 (by decide) rfl (fun c4 => ?_) (fun c4 => absurd c4 (by decide))
  refine z_aload_n (n := 30) hC dX3_angleFor_29 rfl 0 rfl rfl ?_
  refine z_iconst (v := nI 1) (n := 31) hC dX3_angleFor_30 (by decide) rfl ?_
  refine z_calli (R := { frames := 2, cells := 0, slots := 0, locals := 43 }) (cells := 0) (slots := 0) (ws := wN ma cI (nI 0) n sw st b r T sc fi mi fa K) (n := 34) (As := [.int (nI 1)]) (rest := []) hC (k_X3_no l G cI cZ cJ ma (nI 0) n sw st b r T sc fi mi fa K (nI 1) (by omega) (by omega)) kg_X3_92 kd_yX3_no dX3_angleFor_31 ⟨Nat.le_of_ble_eq_true rfl, Nat.le_of_ble_eq_true rfl⟩ 0 rfl rfl rfl [0, 1, 2, 3, 4, 5, 6] rfl (by decide) rfl (Nat.le_of_ble_eq_true rfl) ⟨Nat.le_of_ble_eq_true rfl, Nat.le_of_ble_eq_true rfl⟩ (ws2 := fun u5 => wN ma cI (nI 1) n sw st b r T sc fi mi fa K) [] (fun _ => rfl) ([]) (fun _ => rfl) rfl (fun _ => rfl) [ma 0, ma 1, ma 2, ma 3, ma 4, ma 5, ma 6] (fun _ => rfl) rfl rfl rfl (fun r6 u5 h7 => ?_)
  subst h7
  refine z_iret hC hr hlocks () ?_ rfl dX3_angleFor_34 (by omega) (by omega)
  rfl

set_option maxRecDepth 100000 in
set_option maxHeartbeats 4000000 in
theorem k_X3_wouldHit (l : Launch) (G : va_G) (cI cZ cJ : ClassId) (ma : Nat → Nat) (th : Int32) (n : Nat) (sw : Nat → Int32) (st : Nat → Int32) (b : Nat → Int32) (r : Nat → Int32) (T : Nat) (sc : Nat → Int32) (fi : Nat → Int32) (mi : Nat → Int32) (fa : Nat → Int32) (K : Nat → Int32) (g : Nat) (hn : n ≤ 6) (hT : T + 200 < 2 ^ 29) (hg : g < n) (hst : ∀ g, g < n → nI 1 ≤ st g) : MI (Unit) l yX3_wouldHit cX3_wouldHit 2 3 64 G (tY cI cZ cJ) [.ref (ma 0), .int (nI g)] (wN ma cI th n sw st b r T sc fi mi fa K) (fun zr _ => zr = ouF (sw g) (st g) (fa g) (amF b r T g)) (fun _ => wN ma cI (nI 0) n sw st b r T sc fi mi fa K) 0 0 := by
  refine MI_of (by decide) (Nat.le_of_ble_eq_true rfl) [(0, .ref (ma 0)), (1, .int (nI g))] rfl ?_
  intro p e s m below meth c hC hr hlocks hname
  have hC : Cx p s m _ c cX3_wouldHit 2 RX3 G (tY cI cZ cJ) _ := hC
  refine z_aload_n (n := 1) hC dX3_wouldHit_0 rfl 0 rfl rfl ?_
  refine z_iconst (v := nI 0) (n := 2) hC dX3_wouldHit_1 (by decide) rfl ?_
  refine pf_X3_28 (ws' := wN ma cI (nI 0) n sw st b r T sc fi mi fa K) (n := 5) hC 0 rfl (Nat.le_of_ble_eq_true rfl) dX3_wouldHit_2 rfl rfl ?_
  refine z_aload_n (n := 6) hC dX3_wouldHit_5 rfl 0 rfl rfl ?_
  refine z_iload_n (n := 7) hC dX3_wouldHit_6 rfl 1 rfl rfl ?_
  refine z_callb (R := { frames := 3, cells := 0, slots := 0, locals := 64 }) (cells := 0) (slots := 0) (ws := wN ma cI (nI 0) n sw st b r T sc fi mi fa K) (n := 10) (As := [.int (nI g)]) (rest := []) hC (k_X3_isGun_t l G cI cZ cJ ma (nI 0) n sw st b r T sc fi mi fa K g (by omega) hg) kg_X3_95 kd_yX3_isGun dX3_wouldHit_7 ⟨Nat.le_of_ble_eq_true rfl, Nat.le_of_ble_eq_true rfl⟩ 0 rfl rfl rfl [0, 1, 2, 3, 4, 5, 6] rfl (by decide) rfl (Nat.le_of_ble_eq_true rfl) ⟨Nat.le_of_ble_eq_true rfl, Nat.le_of_ble_eq_true rfl⟩ (ws2 := fun u1 => wN ma cI (nI 0) n sw st b r T sc fi mi fa K) [] (fun _ => rfl) ([]) (fun _ => rfl) rfl (fun _ => rfl) [ma 0, ma 1, ma 2, ma 3, ma 4, ma 5, ma 6] (fun _ => rfl) rfl rfl rfl (fun r2 u1 h3 => ?_)
  subst h3
  refine z_if_eq_b (tgt := 21) (n := 13) hC true rfl dX3_wouldHit_10 (by decide) rfl (fun c4 => absurd c4 (by decide)) (fun c4 => ?_)
  refine z_aload_n (n := 14) hC dX3_wouldHit_13 rfl 0 rfl rfl ?_
  refine z_iload_n (n := 15) hC dX3_wouldHit_14 rfl 1 rfl rfl ?_
  refine z_calli (R := { frames := 3, cells := 0, slots := 0, locals := 64 }) (cells := 0) (slots := 0) (ws := wN ma cI (nI 0) n sw st b r T sc fi mi fa K) (n := 18) (As := [.int (nI g)]) (rest := []) hC (k_X3_hit l G cI cZ cJ ma (nI 0) n sw st b r T sc fi mi fa K g (by omega) (by omega) hg hst) kg_X3_65 kd_yX3_hit dX3_wouldHit_15 ⟨Nat.le_of_ble_eq_true rfl, Nat.le_of_ble_eq_true rfl⟩ 0 rfl rfl rfl [0, 1, 2, 3, 4, 5, 6] rfl (by decide) rfl (Nat.le_of_ble_eq_true rfl) ⟨Nat.le_of_ble_eq_true rfl, Nat.le_of_ble_eq_true rfl⟩ (ws2 := fun u5 => wN ma cI (nI 0) n sw st b r T sc fi mi fa K) [] (fun _ => rfl) ([]) (fun _ => rfl) rfl (fun _ => rfl) [ma 0, ma 1, ma 2, ma 3, ma 4, ma 5, ma 6] (fun _ => rfl) rfl rfl rfl (fun r6 u5 h7 => ?_)
  subst h7
  refine z_goto (n := 26) hC dX3_wouldHit_18 (by decide) ?_
  refine z_iret hC hr hlocks () ?_ rfl dX3_wouldHit_26 (by omega) (by omega)
  rfl

set_option maxRecDepth 100000 in
set_option maxHeartbeats 4000000 in
theorem k_X3_wouldHit_x (l : Launch) (G : va_G) (cI cZ cJ : ClassId) (ma : Nat → Nat) (th : Int32) (n : Nat) (sw : Nat → Int32) (st : Nat → Int32) (b : Nat → Int32) (r : Nat → Int32) (T : Nat) (sc : Nat → Int32) (fi : Nat → Int32) (mi : Nat → Int32) (fa : Nat → Int32) (K : Nat → Int32) (x : Int32) (hn : n ≤ 6) (hT : T + 200 < 2 ^ 29) (hb : x < 0 ∨ nI n ≤ x) : MI (Unit) l yX3_wouldHit cX3_wouldHit 2 2 43 G (tY cI cZ cJ) [.ref (ma 0), .int x] (wN ma cI th n sw st b r T sc fi mi fa K) (fun zr _ => zr = nI 0) (fun _ => wN ma cI (nI 1) n sw st b r T sc fi mi fa K) 0 0 := by
  refine MI_of (by decide) (Nat.le_of_ble_eq_true rfl) [(0, .ref (ma 0)), (1, .int x)] rfl ?_
  intro p e s m below meth c hC hr hlocks hname
  have hC : Cx p s m _ c cX3_wouldHit 2 RX3 G (tY cI cZ cJ) _ := hC
  refine z_aload_n (n := 1) hC dX3_wouldHit_0 rfl 0 rfl rfl ?_
  refine z_iconst (v := nI 0) (n := 2) hC dX3_wouldHit_1 (by decide) rfl ?_
  refine pf_X3_28 (ws' := wN ma cI (nI 0) n sw st b r T sc fi mi fa K) (n := 5) hC 0 rfl (Nat.le_of_ble_eq_true rfl) dX3_wouldHit_2 rfl rfl ?_
  refine z_aload_n (n := 6) hC dX3_wouldHit_5 rfl 0 rfl rfl ?_
  refine z_iload_n (n := 7) hC dX3_wouldHit_6 rfl 1 rfl rfl ?_
  refine z_callb (R := { frames := 2, cells := 0, slots := 0, locals := 43 }) (cells := 0) (slots := 0) (ws := wN ma cI (nI 0) n sw st b r T sc fi mi fa K) (n := 10) (As := [.int x]) (rest := []) hC (k_X3_isGun_f l G cI cZ cJ ma (nI 0) n sw st b r T sc fi mi fa K x (by omega) hb) kg_X3_95 kd_yX3_isGun dX3_wouldHit_7 ⟨Nat.le_of_ble_eq_true rfl, Nat.le_of_ble_eq_true rfl⟩ 0 rfl rfl rfl [0, 1, 2, 3, 4, 5, 6] rfl (by decide) rfl (Nat.le_of_ble_eq_true rfl) ⟨Nat.le_of_ble_eq_true rfl, Nat.le_of_ble_eq_true rfl⟩ (ws2 := fun u1 => wN ma cI (nI 0) n sw st b r T sc fi mi fa K) [] (fun _ => rfl) ([]) (fun _ => rfl) rfl (fun _ => rfl) [ma 0, ma 1, ma 2, ma 3, ma 4, ma 5, ma 6] (fun _ => rfl) rfl rfl rfl (fun r2 u1 h3 => ?_)
  subst h3
  refine z_if_eq_b (tgt := 21) (n := 13) hC false rfl dX3_wouldHit_10 (by decide) rfl (fun c4 => ?_) (fun c4 => absurd c4 (by decide))
  refine z_aload_n (n := 22) hC dX3_wouldHit_21 rfl 0 rfl rfl ?_
  refine z_iconst (v := nI 1) (n := 23) hC dX3_wouldHit_22 (by decide) rfl ?_
  refine z_calli (R := { frames := 2, cells := 0, slots := 0, locals := 43 }) (cells := 0) (slots := 0) (ws := wN ma cI (nI 0) n sw st b r T sc fi mi fa K) (n := 26) (As := [.int (nI 1)]) (rest := []) hC (k_X3_no l G cI cZ cJ ma (nI 0) n sw st b r T sc fi mi fa K (nI 1) (by omega) (by omega)) kg_X3_92 kd_yX3_no dX3_wouldHit_23 ⟨Nat.le_of_ble_eq_true rfl, Nat.le_of_ble_eq_true rfl⟩ 0 rfl rfl rfl [0, 1, 2, 3, 4, 5, 6] rfl (by decide) rfl (Nat.le_of_ble_eq_true rfl) ⟨Nat.le_of_ble_eq_true rfl, Nat.le_of_ble_eq_true rfl⟩ (ws2 := fun u5 => wN ma cI (nI 1) n sw st b r T sc fi mi fa K) [] (fun _ => rfl) ([]) (fun _ => rfl) rfl (fun _ => rfl) [ma 0, ma 1, ma 2, ma 3, ma 4, ma 5, ma 6] (fun _ => rfl) rfl rfl rfl (fun r6 u5 h7 => ?_)
  subst h7
  refine z_iret hC hr hlocks () ?_ rfl dX3_wouldHit_26 (by omega) (by omega)
  rfl

set_option maxRecDepth 100000 in
set_option maxHeartbeats 4000000 in
theorem k_X3_rank (l : Launch) (G : va_G) (cI cZ cJ : ClassId) (ma : Nat → Nat) (th : Int32) (n : Nat) (sw : Nat → Int32) (st : Nat → Int32) (b : Nat → Int32) (r : Nat → Int32) (T : Nat) (sc : Nat → Int32) (fi : Nat → Int32) (mi : Nat → Int32) (fa : Nat → Int32) (K : Nat → Int32) (g : Nat) (hn : n ≤ 6) (hT : T + 200 < 2 ^ 29) (hg : g < n) : MI (Unit) l yX3_rank cX3_rank 4 0 0 G (tY cI cZ cJ) [.ref (ma 0), .int (nI g)] (wN ma cI th n sw st b r T sc fi mi fa K) (fun zr _ => zr = nI (1 + ctF (fun zj => decide (¬ sc zj ≤ sc g)) n)) (fun _ => wN ma cI th n sw st b r T sc fi mi fa K) 0 0 := by
  refine MI_of (by decide) (Nat.le_of_ble_eq_true rfl) [(0, .ref (ma 0)), (1, .int (nI g))] rfl ?_
  intro p e s m below meth c hC hr hlocks hname
  have hC : Cx p s m _ c cX3_rank 4 RX3 G (tY cI cZ cJ) _ := hC
  refine z_iconst (v := nI 1) (n := 1) hC dX3_rank_0 (by decide) rfl ?_
  refine z_istore_n (lv' := [(2, .int (nI 1)), (0, .ref (ma 0)), (1, .int (nI g))]) (n := 2) hC dX3_rank_1 rfl (by decide) rfl rfl ?_
  refine z_iconst (v := nI 0) (n := 3) hC dX3_rank_2 (by decide) rfl ?_
  refine z_istore_n (lv' := [(3, .int (nI 0)), (2, .int (nI 1)), (0, .ref (ma 0)), (1, .int (nI g))]) (n := 4) hC dX3_rank_3 rfl (by decide) rfl rfl ?_
  refine z_lv [2, 3, 1, 0] (lv' := [(0, .ref (ma 0)), (1, .int (nI g)), (2, .int (nI (1 + ctF (fun zj => decide (¬ sc zj ≤ sc g)) 0))), (3, .int (nI 0))]) rfl ?_
  refine z_loop n 0 (fun i => wN ma cI th n sw st b r T sc fi mi fa K) (fun i => [(0, .ref (ma 0)), (1, .int (nI g)), (2, .int (nI (1 + ctF (fun zj => decide (¬ sc zj ≤ sc g)) i))), (3, .int (nI i))]) (by omega) rfl rfl (fun i hi0 hi1 ih => ?_)
  refine z_iload_n (n := 5) hC dX3_rank_4 rfl 3 rfl rfl ?_
  refine z_aload_n (n := 6) hC dX3_rank_5 rfl 0 rfl rfl ?_
  refine gf_X3_32 (v := .int (nI n)) (n := 9) hC 0 rfl rfl dX3_rank_6 rfl ?_
  refine z_icmp_ge_n (tgt := 45) (n := 12) hC i n rfl rfl (by omega) (by omega) dX3_rank_9 (by decide) rfl (fun c1 => ?_) (fun c1 => ?_)
  · obtain rfl : n = i := by omega
    refine z_iload_n (n := 46) hC dX3_rank_45 rfl 2 rfl rfl ?_
    refine z_iret hC hr hlocks () ?_ rfl dX3_rank_46 (by omega) (by omega)
    rfl
  · refine z_iload_n (n := 13) hC dX3_rank_12 rfl 2 rfl rfl ?_
    refine z_aload_n (n := 14) hC dX3_rank_13 rfl 0 rfl rfl ?_
    refine gf_X3_22 (v := .ref (ma 5)) (n := 17) hC 0 rfl rfl dX3_rank_14 rfl ?_
    refine z_iconst (v := nI 1) (n := 18) hC dX3_rank_17 (by decide) rfl ?_
    refine z_iload_n (n := 19) hC dX3_rank_18 rfl 3 rfl rfl ?_
    refine z_iadd (v := nI (1 + i)) (n := 20) hC dX3_rank_19 (nI_add 1 i) rfl ?_
    refine z_iald (v := sc i) (n := 21) hC 5 0 (1 + i) rfl rfl rfl (by omega) (by decide) dX3_rank_20 (nw_sc (by omega)) rfl ?_
    refine z_aload_n (n := 22) hC dX3_rank_21 rfl 0 rfl rfl ?_
    refine gf_X3_22 (v := .ref (ma 5)) (n := 25) hC 0 rfl rfl dX3_rank_22 rfl ?_
    refine z_iconst (v := nI 1) (n := 26) hC dX3_rank_25 (by decide) rfl ?_
    refine z_iload_n (n := 27) hC dX3_rank_26 rfl 1 rfl rfl ?_
    refine z_iadd (v := nI (1 + g)) (n := 28) hC dX3_rank_27 (nI_add 1 g) rfl ?_
    refine z_iald (v := sc g) (n := 29) hC 5 0 (1 + g) rfl rfl rfl (by omega) (by decide) dX3_rank_28 (nw_sc (by omega)) rfl ?_
    refine z_icmp_le (tgt := 36) (n := 32) hC dX3_rank_29 (by decide) rfl (fun c2 => ?_) (fun c2 => ?_)
    · refine z_iconst (v := nI 0) (n := 37) hC dX3_rank_36 (by decide) rfl ?_
      refine z_iadd (v := nI (1 + ctF (fun zj => decide (¬ sc zj ≤ sc g)) i + 0)) (n := 38) hC dX3_rank_37 (nI_add (1 + ctF (fun zj => decide (¬ sc zj ≤ sc g)) i) 0) rfl ?_
      refine z_istore_n (lv' := [(2, .int (nI (1 + ctF (fun zj => decide (¬ sc zj ≤ sc g)) i + 0))), (0, .ref (ma 0)), (1, .int (nI g)), (3, .int (nI i))]) (n := 39) hC dX3_rank_38 rfl (by decide) rfl rfl ?_
      refine z_iinc (k0 := 3) (v := nI (i + 1)) (lv' := [(3, .int (nI (i + 1))), (2, .int (nI (1 + ctF (fun zj => decide (¬ sc zj ≤ sc g)) i + 0))), (0, .ref (ma 0)), (1, .int (nI g))]) (n := 42) hC dX3_rank_39 rfl (nI_add i 1) (by decide) rfl rfl ?_
      refine z_goto (n := 4) hC dX3_rank_42 (by decide) ?_
      refine z_lv [2, 3, 1, 0] (lv' := [(0, .ref (ma 0)), (1, .int (nI g)), (2, .int (nI (1 + ctF (fun zj => decide (¬ sc zj ≤ sc g)) i + 0))), (3, .int (nI (i + 1)))]) rfl ?_
      refine z_leq (lv' := [(0, .ref (ma 0)), (1, .int (nI g)), (2, .int (nI (1 + ctF (fun zj => decide (¬ sc zj ≤ sc g)) (i + 1)))), (3, .int (nI (i + 1)))]) (by simp only [ctF, decide_eq_true_eq, ite_not, if_pos c1, if_pos c2, Nat.add_assoc]) ?_
      exact ih (i + 1) (by omega) (by omega)
    · refine z_iconst (v := nI 1) (n := 33) hC dX3_rank_32 (by decide) rfl ?_
      refine z_goto (n := 37) hC dX3_rank_33 (by decide) ?_
      refine z_iadd (v := nI (1 + ctF (fun zj => decide (¬ sc zj ≤ sc g)) i + 1)) (n := 38) hC dX3_rank_37 (nI_add (1 + ctF (fun zj => decide (¬ sc zj ≤ sc g)) i) 1) rfl ?_
      refine z_istore_n (lv' := [(2, .int (nI (1 + ctF (fun zj => decide (¬ sc zj ≤ sc g)) i + 1))), (0, .ref (ma 0)), (1, .int (nI g)), (3, .int (nI i))]) (n := 39) hC dX3_rank_38 rfl (by decide) rfl rfl ?_
      refine z_iinc (k0 := 3) (v := nI (i + 1)) (lv' := [(3, .int (nI (i + 1))), (2, .int (nI (1 + ctF (fun zj => decide (¬ sc zj ≤ sc g)) i + 1))), (0, .ref (ma 0)), (1, .int (nI g))]) (n := 42) hC dX3_rank_39 rfl (nI_add i 1) (by decide) rfl rfl ?_
      refine z_goto (n := 4) hC dX3_rank_42 (by decide) ?_
      refine z_lv [2, 3, 1, 0] (lv' := [(0, .ref (ma 0)), (1, .int (nI g)), (2, .int (nI (1 + ctF (fun zj => decide (¬ sc zj ≤ sc g)) i + 1))), (3, .int (nI (i + 1)))]) rfl ?_
      refine z_leq (lv' := [(0, .ref (ma 0)), (1, .int (nI g)), (2, .int (nI (1 + ctF (fun zj => decide (¬ sc zj ≤ sc g)) (i + 1)))), (3, .int (nI (i + 1)))]) (by simp only [ctF, decide_eq_true_eq, ite_not, if_pos c1, if_neg c2, Nat.add_assoc]) ?_
      exact ih (i + 1) (by omega) (by omega)

set_option maxRecDepth 100000 in
set_option maxHeartbeats 4000000 in
theorem k_X3_rankOf (l : Launch) (G : va_G) (cI cZ cJ : ClassId) (ma : Nat → Nat) (th : Int32) (n : Nat) (sw : Nat → Int32) (st : Nat → Int32) (b : Nat → Int32) (r : Nat → Int32) (T : Nat) (sc : Nat → Int32) (fi : Nat → Int32) (mi : Nat → Int32) (fa : Nat → Int32) (K : Nat → Int32) (g : Nat) (hn : n ≤ 6) (hT : T + 200 < 2 ^ 29) (hg : g < n) (hst : ∀ g, g < n → nI 1 ≤ st g) : MI (Unit) l yX3_rankOf cX3_rankOf 2 2 43 G (tY cI cZ cJ) [.ref (ma 0), .int (nI g)] (wN ma cI th n sw st b r T sc fi mi fa K) (fun zr _ => zr = nI (1 + ctF (fun zj => decide (¬ sc zj ≤ sc g)) n)) (fun _ => wN ma cI (nI 0) n sw st b r T sc fi mi fa K) 0 0 := by
  refine MI_of (by decide) (Nat.le_of_ble_eq_true rfl) [(0, .ref (ma 0)), (1, .int (nI g))] rfl ?_
  intro p e s m below meth c hC hr hlocks hname
  have hC : Cx p s m _ c cX3_rankOf 2 RX3 G (tY cI cZ cJ) _ := hC
  refine z_aload_n (n := 1) hC dX3_rankOf_0 rfl 0 rfl rfl ?_
  refine z_iconst (v := nI 0) (n := 2) hC dX3_rankOf_1 (by decide) rfl ?_
  refine pf_X3_28 (ws' := wN ma cI (nI 0) n sw st b r T sc fi mi fa K) (n := 5) hC 0 rfl (Nat.le_of_ble_eq_true rfl) dX3_rankOf_2 rfl rfl ?_
  refine z_aload_n (n := 6) hC dX3_rankOf_5 rfl 0 rfl rfl ?_
  refine z_iload_n (n := 7) hC dX3_rankOf_6 rfl 1 rfl rfl ?_
  refine z_callb (R := { frames := 2, cells := 0, slots := 0, locals := 43 }) (cells := 0) (slots := 0) (ws := wN ma cI (nI 0) n sw st b r T sc fi mi fa K) (n := 10) (As := [.int (nI g)]) (rest := []) hC (k_X3_isGun_t l G cI cZ cJ ma (nI 0) n sw st b r T sc fi mi fa K g (by omega) hg) kg_X3_95 kd_yX3_isGun dX3_rankOf_7 ⟨Nat.le_of_ble_eq_true rfl, Nat.le_of_ble_eq_true rfl⟩ 0 rfl rfl rfl [0, 1, 2, 3, 4, 5, 6] rfl (by decide) rfl (Nat.le_of_ble_eq_true rfl) ⟨Nat.le_of_ble_eq_true rfl, Nat.le_of_ble_eq_true rfl⟩ (ws2 := fun u1 => wN ma cI (nI 0) n sw st b r T sc fi mi fa K) [] (fun _ => rfl) ([]) (fun _ => rfl) rfl (fun _ => rfl) [ma 0, ma 1, ma 2, ma 3, ma 4, ma 5, ma 6] (fun _ => rfl) rfl rfl rfl (fun r2 u1 h3 => ?_)
  subst h3
  refine z_if_eq_b (tgt := 21) (n := 13) hC true rfl dX3_rankOf_10 (by decide) rfl (fun c4 => absurd c4 (by decide)) (fun c4 => ?_)
  refine z_aload_n (n := 14) hC dX3_rankOf_13 rfl 0 rfl rfl ?_
  refine z_iload_n (n := 15) hC dX3_rankOf_14 rfl 1 rfl rfl ?_
  refine z_calli (R := { frames := 2, cells := 0, slots := 0, locals := 43 }) (cells := 0) (slots := 0) (ws := wN ma cI (nI 0) n sw st b r T sc fi mi fa K) (n := 18) (As := [.int (nI g)]) (rest := []) hC (k_X3_rank l G cI cZ cJ ma (nI 0) n sw st b r T sc fi mi fa K g (by omega) (by omega) (by omega)) kg_X3_117 kd_yX3_rank dX3_rankOf_15 ⟨Nat.le_of_ble_eq_true rfl, Nat.le_of_ble_eq_true rfl⟩ 0 rfl rfl rfl [0, 1, 2, 3, 4, 5, 6] rfl (by decide) rfl (Nat.le_of_ble_eq_true rfl) ⟨Nat.le_of_ble_eq_true rfl, Nat.le_of_ble_eq_true rfl⟩ (ws2 := fun u5 => wN ma cI (nI 0) n sw st b r T sc fi mi fa K) [] (fun _ => rfl) ([]) (fun _ => rfl) rfl (fun _ => rfl) [ma 0, ma 1, ma 2, ma 3, ma 4, ma 5, ma 6] (fun _ => rfl) rfl rfl rfl (fun r6 u5 h7 => ?_)
  subst h7
  refine z_goto (n := 26) hC dX3_rankOf_18 (by decide) ?_
  refine z_iret hC hr hlocks () ?_ rfl dX3_rankOf_26 (by omega) (by omega)
  rfl

set_option maxRecDepth 100000 in
set_option maxHeartbeats 4000000 in
theorem k_X3_rankOf_x (l : Launch) (G : va_G) (cI cZ cJ : ClassId) (ma : Nat → Nat) (th : Int32) (n : Nat) (sw : Nat → Int32) (st : Nat → Int32) (b : Nat → Int32) (r : Nat → Int32) (T : Nat) (sc : Nat → Int32) (fi : Nat → Int32) (mi : Nat → Int32) (fa : Nat → Int32) (K : Nat → Int32) (x : Int32) (hn : n ≤ 6) (hT : T + 200 < 2 ^ 29) (hb : x < 0 ∨ nI n ≤ x) : MI (Unit) l yX3_rankOf cX3_rankOf 2 2 43 G (tY cI cZ cJ) [.ref (ma 0), .int x] (wN ma cI th n sw st b r T sc fi mi fa K) (fun zr _ => zr = nI 0) (fun _ => wN ma cI (nI 1) n sw st b r T sc fi mi fa K) 0 0 := by
  refine MI_of (by decide) (Nat.le_of_ble_eq_true rfl) [(0, .ref (ma 0)), (1, .int x)] rfl ?_
  intro p e s m below meth c hC hr hlocks hname
  have hC : Cx p s m _ c cX3_rankOf 2 RX3 G (tY cI cZ cJ) _ := hC
  refine z_aload_n (n := 1) hC dX3_rankOf_0 rfl 0 rfl rfl ?_
  refine z_iconst (v := nI 0) (n := 2) hC dX3_rankOf_1 (by decide) rfl ?_
  refine pf_X3_28 (ws' := wN ma cI (nI 0) n sw st b r T sc fi mi fa K) (n := 5) hC 0 rfl (Nat.le_of_ble_eq_true rfl) dX3_rankOf_2 rfl rfl ?_
  refine z_aload_n (n := 6) hC dX3_rankOf_5 rfl 0 rfl rfl ?_
  refine z_iload_n (n := 7) hC dX3_rankOf_6 rfl 1 rfl rfl ?_
  refine z_callb (R := { frames := 2, cells := 0, slots := 0, locals := 43 }) (cells := 0) (slots := 0) (ws := wN ma cI (nI 0) n sw st b r T sc fi mi fa K) (n := 10) (As := [.int x]) (rest := []) hC (k_X3_isGun_f l G cI cZ cJ ma (nI 0) n sw st b r T sc fi mi fa K x (by omega) hb) kg_X3_95 kd_yX3_isGun dX3_rankOf_7 ⟨Nat.le_of_ble_eq_true rfl, Nat.le_of_ble_eq_true rfl⟩ 0 rfl rfl rfl [0, 1, 2, 3, 4, 5, 6] rfl (by decide) rfl (Nat.le_of_ble_eq_true rfl) ⟨Nat.le_of_ble_eq_true rfl, Nat.le_of_ble_eq_true rfl⟩ (ws2 := fun u1 => wN ma cI (nI 0) n sw st b r T sc fi mi fa K) [] (fun _ => rfl) ([]) (fun _ => rfl) rfl (fun _ => rfl) [ma 0, ma 1, ma 2, ma 3, ma 4, ma 5, ma 6] (fun _ => rfl) rfl rfl rfl (fun r2 u1 h3 => ?_)
  subst h3
  refine z_if_eq_b (tgt := 21) (n := 13) hC false rfl dX3_rankOf_10 (by decide) rfl (fun c4 => ?_) (fun c4 => absurd c4 (by decide))
  refine z_aload_n (n := 22) hC dX3_rankOf_21 rfl 0 rfl rfl ?_
  refine z_iconst (v := nI 1) (n := 23) hC dX3_rankOf_22 (by decide) rfl ?_
  refine z_calli (R := { frames := 2, cells := 0, slots := 0, locals := 43 }) (cells := 0) (slots := 0) (ws := wN ma cI (nI 0) n sw st b r T sc fi mi fa K) (n := 26) (As := [.int (nI 1)]) (rest := []) hC (k_X3_no l G cI cZ cJ ma (nI 0) n sw st b r T sc fi mi fa K (nI 1) (by omega) (by omega)) kg_X3_92 kd_yX3_no dX3_rankOf_23 ⟨Nat.le_of_ble_eq_true rfl, Nat.le_of_ble_eq_true rfl⟩ 0 rfl rfl rfl [0, 1, 2, 3, 4, 5, 6] rfl (by decide) rfl (Nat.le_of_ble_eq_true rfl) ⟨Nat.le_of_ble_eq_true rfl, Nat.le_of_ble_eq_true rfl⟩ (ws2 := fun u5 => wN ma cI (nI 1) n sw st b r T sc fi mi fa K) [] (fun _ => rfl) ([]) (fun _ => rfl) rfl (fun _ => rfl) [ma 0, ma 1, ma 2, ma 3, ma 4, ma 5, ma 6] (fun _ => rfl) rfl rfl rfl (fun r6 u5 h7 => ?_)
  subst h7
  refine z_iret hC hr hlocks () ?_ rfl dX3_rankOf_26 (by omega) (by omega)
  rfl

set_option maxRecDepth 100000 in
set_option maxHeartbeats 4000000 in
theorem k_X3_ofGun_sc (l : Launch) (G : va_G) (cI cZ cJ : ClassId) (ma : Nat → Nat) (th : Int32) (n : Nat) (sw : Nat → Int32) (st : Nat → Int32) (b : Nat → Int32) (r : Nat → Int32) (T : Nat) (sc : Nat → Int32) (fi : Nat → Int32) (mi : Nat → Int32) (fa : Nat → Int32) (K : Nat → Int32) (g : Nat) (hn : n ≤ 6) (hT : T + 200 < 2 ^ 29) (hg : g < n) : MI (Unit) l yX3_ofGun cX3_ofGun 3 2 43 G (tY cI cZ cJ) [.ref (ma 0), .int (nI g), .int (nI 1)] (wN ma cI th n sw st b r T sc fi mi fa K) (fun zr _ => zr = sc g) (fun _ => wN ma cI (nI 0) n sw st b r T sc fi mi fa K) 0 0 := by
  refine MI_of (by decide) (Nat.le_of_ble_eq_true rfl) [(0, .ref (ma 0)), (1, .int (nI g)), (2, .int (nI 1))] rfl ?_
  intro p e s m below meth c hC hr hlocks hname
  have hC : Cx p s m _ c cX3_ofGun 3 RX3 G (tY cI cZ cJ) _ := hC
  refine z_aload_n (n := 1) hC dX3_ofGun_0 rfl 0 rfl rfl ?_
  refine z_iconst (v := nI 0) (n := 2) hC dX3_ofGun_1 (by decide) rfl ?_
  refine pf_X3_28 (ws' := wN ma cI (nI 0) n sw st b r T sc fi mi fa K) (n := 5) hC 0 rfl (Nat.le_of_ble_eq_true rfl) dX3_ofGun_2 rfl rfl ?_
  refine z_aload_n (n := 6) hC dX3_ofGun_5 rfl 0 rfl rfl ?_
  refine z_iload_n (n := 7) hC dX3_ofGun_6 rfl 1 rfl rfl ?_
  refine z_callb (R := { frames := 2, cells := 0, slots := 0, locals := 43 }) (cells := 0) (slots := 0) (ws := wN ma cI (nI 0) n sw st b r T sc fi mi fa K) (n := 10) (As := [.int (nI g)]) (rest := []) hC (k_X3_isGun_t l G cI cZ cJ ma (nI 0) n sw st b r T sc fi mi fa K g (by omega) hg) kg_X3_95 kd_yX3_isGun dX3_ofGun_7 ⟨Nat.le_of_ble_eq_true rfl, Nat.le_of_ble_eq_true rfl⟩ 0 rfl rfl rfl [0, 1, 2, 3, 4, 5, 6] rfl (by decide) rfl (Nat.le_of_ble_eq_true rfl) ⟨Nat.le_of_ble_eq_true rfl, Nat.le_of_ble_eq_true rfl⟩ (ws2 := fun u1 => wN ma cI (nI 0) n sw st b r T sc fi mi fa K) [] (fun _ => rfl) ([]) (fun _ => rfl) rfl (fun _ => rfl) [ma 0, ma 1, ma 2, ma 3, ma 4, ma 5, ma 6] (fun _ => rfl) rfl rfl rfl (fun r2 u1 h3 => ?_)
  subst h3
  refine z_if_eq_b (tgt := 24) (n := 13) hC true rfl dX3_ofGun_10 (by decide) rfl (fun c4 => absurd c4 (by decide)) (fun c4 => ?_)
  refine z_aload_n (n := 14) hC dX3_ofGun_13 rfl 0 rfl rfl ?_
  refine gf_X3_22 (v := .ref (ma 5)) (n := 17) hC 0 rfl rfl dX3_ofGun_14 rfl ?_
  refine z_iload_n (n := 18) hC dX3_ofGun_17 rfl 2 rfl rfl ?_
  refine z_iload_n (n := 19) hC dX3_ofGun_18 rfl 1 rfl rfl ?_
  refine z_iadd (v := nI (1 + g)) (n := 20) hC dX3_ofGun_19 (nI_add 1 g) rfl ?_
  refine z_iald (v := sc g) (n := 21) hC 5 0 (1 + g) rfl rfl rfl (by omega) (by decide) dX3_ofGun_20 (nw_sc (by omega)) rfl ?_
  refine z_goto (n := 29) hC dX3_ofGun_21 (by decide) ?_
  refine z_iret hC hr hlocks () ?_ rfl dX3_ofGun_29 (by omega) (by omega)
  rfl

set_option maxRecDepth 100000 in
set_option maxHeartbeats 4000000 in
theorem k_X3_ofGun_sc_x (l : Launch) (G : va_G) (cI cZ cJ : ClassId) (ma : Nat → Nat) (th : Int32) (n : Nat) (sw : Nat → Int32) (st : Nat → Int32) (b : Nat → Int32) (r : Nat → Int32) (T : Nat) (sc : Nat → Int32) (fi : Nat → Int32) (mi : Nat → Int32) (fa : Nat → Int32) (K : Nat → Int32) (x : Int32) (hn : n ≤ 6) (hT : T + 200 < 2 ^ 29) (hb : x < 0 ∨ nI n ≤ x) : MI (Unit) l yX3_ofGun cX3_ofGun 3 2 43 G (tY cI cZ cJ) [.ref (ma 0), .int x, .int (nI 1)] (wN ma cI th n sw st b r T sc fi mi fa K) (fun zr _ => zr = nI 0) (fun _ => wN ma cI (nI 1) n sw st b r T sc fi mi fa K) 0 0 := by
  refine MI_of (by decide) (Nat.le_of_ble_eq_true rfl) [(0, .ref (ma 0)), (1, .int x), (2, .int (nI 1))] rfl ?_
  intro p e s m below meth c hC hr hlocks hname
  have hC : Cx p s m _ c cX3_ofGun 3 RX3 G (tY cI cZ cJ) _ := hC
  refine z_aload_n (n := 1) hC dX3_ofGun_0 rfl 0 rfl rfl ?_
  refine z_iconst (v := nI 0) (n := 2) hC dX3_ofGun_1 (by decide) rfl ?_
  refine pf_X3_28 (ws' := wN ma cI (nI 0) n sw st b r T sc fi mi fa K) (n := 5) hC 0 rfl (Nat.le_of_ble_eq_true rfl) dX3_ofGun_2 rfl rfl ?_
  refine z_aload_n (n := 6) hC dX3_ofGun_5 rfl 0 rfl rfl ?_
  refine z_iload_n (n := 7) hC dX3_ofGun_6 rfl 1 rfl rfl ?_
  refine z_callb (R := { frames := 2, cells := 0, slots := 0, locals := 43 }) (cells := 0) (slots := 0) (ws := wN ma cI (nI 0) n sw st b r T sc fi mi fa K) (n := 10) (As := [.int x]) (rest := []) hC (k_X3_isGun_f l G cI cZ cJ ma (nI 0) n sw st b r T sc fi mi fa K x (by omega) hb) kg_X3_95 kd_yX3_isGun dX3_ofGun_7 ⟨Nat.le_of_ble_eq_true rfl, Nat.le_of_ble_eq_true rfl⟩ 0 rfl rfl rfl [0, 1, 2, 3, 4, 5, 6] rfl (by decide) rfl (Nat.le_of_ble_eq_true rfl) ⟨Nat.le_of_ble_eq_true rfl, Nat.le_of_ble_eq_true rfl⟩ (ws2 := fun u1 => wN ma cI (nI 0) n sw st b r T sc fi mi fa K) [] (fun _ => rfl) ([]) (fun _ => rfl) rfl (fun _ => rfl) [ma 0, ma 1, ma 2, ma 3, ma 4, ma 5, ma 6] (fun _ => rfl) rfl rfl rfl (fun r2 u1 h3 => ?_)
  subst h3
  refine z_if_eq_b (tgt := 24) (n := 13) hC false rfl dX3_ofGun_10 (by decide) rfl (fun c4 => ?_) (fun c4 => absurd c4 (by decide))
  refine z_aload_n (n := 25) hC dX3_ofGun_24 rfl 0 rfl rfl ?_
  refine z_iconst (v := nI 1) (n := 26) hC dX3_ofGun_25 (by decide) rfl ?_
  refine z_calli (R := { frames := 2, cells := 0, slots := 0, locals := 43 }) (cells := 0) (slots := 0) (ws := wN ma cI (nI 0) n sw st b r T sc fi mi fa K) (n := 29) (As := [.int (nI 1)]) (rest := []) hC (k_X3_no l G cI cZ cJ ma (nI 0) n sw st b r T sc fi mi fa K (nI 1) (by omega) (by omega)) kg_X3_92 kd_yX3_no dX3_ofGun_26 ⟨Nat.le_of_ble_eq_true rfl, Nat.le_of_ble_eq_true rfl⟩ 0 rfl rfl rfl [0, 1, 2, 3, 4, 5, 6] rfl (by decide) rfl (Nat.le_of_ble_eq_true rfl) ⟨Nat.le_of_ble_eq_true rfl, Nat.le_of_ble_eq_true rfl⟩ (ws2 := fun u5 => wN ma cI (nI 1) n sw st b r T sc fi mi fa K) [] (fun _ => rfl) ([]) (fun _ => rfl) rfl (fun _ => rfl) [ma 0, ma 1, ma 2, ma 3, ma 4, ma 5, ma 6] (fun _ => rfl) rfl rfl rfl (fun r6 u5 h7 => ?_)
  subst h7
  refine z_iret hC hr hlocks () ?_ rfl dX3_ofGun_29 (by omega) (by omega)
  rfl

set_option maxRecDepth 100000 in
set_option maxHeartbeats 4000000 in
theorem k_X3_scoreOf (l : Launch) (G : va_G) (cI cZ cJ : ClassId) (ma : Nat → Nat) (th : Int32) (n : Nat) (sw : Nat → Int32) (st : Nat → Int32) (b : Nat → Int32) (r : Nat → Int32) (T : Nat) (sc : Nat → Int32) (fi : Nat → Int32) (mi : Nat → Int32) (fa : Nat → Int32) (K : Nat → Int32) (g : Nat) (hn : n ≤ 6) (hT : T + 200 < 2 ^ 29) (hg : g < n) : MI (Unit) l yX3_scoreOf cX3_scoreOf 2 3 65 G (tY cI cZ cJ) [.ref (ma 0), .int (nI g)] (wN ma cI th n sw st b r T sc fi mi fa K) (fun zr _ => zr = sc g) (fun _ => wN ma cI (nI 0) n sw st b r T sc fi mi fa K) 0 0 := by
  refine MI_of (by decide) (Nat.le_of_ble_eq_true rfl) [(0, .ref (ma 0)), (1, .int (nI g))] rfl ?_
  intro p e s m below meth c hC hr hlocks hname
  have hC : Cx p s m _ c cX3_scoreOf 2 RX3 G (tY cI cZ cJ) _ := hC
  refine z_aload_n (n := 1) hC dX3_scoreOf_0 rfl 0 rfl rfl ?_
  refine z_iload_n (n := 2) hC dX3_scoreOf_1 rfl 1 rfl rfl ?_
  refine z_iconst (v := nI 1) (n := 3) hC dX3_scoreOf_2 (by decide) rfl ?_
  refine z_calli (R := { frames := 3, cells := 0, slots := 0, locals := 65 }) (cells := 0) (slots := 0) (ws := wN ma cI th n sw st b r T sc fi mi fa K) (n := 6) (As := [.int (nI g), .int (nI 1)]) (rest := []) hC (k_X3_ofGun_sc l G cI cZ cJ ma th n sw st b r T sc fi mi fa K g (by omega) (by omega) hg) kg_X3_114 kd_yX3_ofGun dX3_scoreOf_3 ⟨Nat.le_of_ble_eq_true rfl, Nat.le_of_ble_eq_true rfl⟩ 0 rfl rfl rfl [0, 1, 2, 3, 4, 5, 6] rfl (by decide) rfl (Nat.le_of_ble_eq_true rfl) ⟨Nat.le_of_ble_eq_true rfl, Nat.le_of_ble_eq_true rfl⟩ (ws2 := fun u1 => wN ma cI (nI 0) n sw st b r T sc fi mi fa K) [] (fun _ => rfl) ([]) (fun _ => rfl) rfl (fun _ => rfl) [ma 0, ma 1, ma 2, ma 3, ma 4, ma 5, ma 6] (fun _ => rfl) rfl rfl rfl (fun r2 u1 h3 => ?_)
  subst h3
  refine z_iret hC hr hlocks () ?_ rfl dX3_scoreOf_6 (by omega) (by omega)
  rfl

set_option maxRecDepth 100000 in
set_option maxHeartbeats 4000000 in
theorem k_X3_scoreOf_x (l : Launch) (G : va_G) (cI cZ cJ : ClassId) (ma : Nat → Nat) (th : Int32) (n : Nat) (sw : Nat → Int32) (st : Nat → Int32) (b : Nat → Int32) (r : Nat → Int32) (T : Nat) (sc : Nat → Int32) (fi : Nat → Int32) (mi : Nat → Int32) (fa : Nat → Int32) (K : Nat → Int32) (x : Int32) (hn : n ≤ 6) (hT : T + 200 < 2 ^ 29) (hb : x < 0 ∨ nI n ≤ x) : MI (Unit) l yX3_scoreOf cX3_scoreOf 2 3 65 G (tY cI cZ cJ) [.ref (ma 0), .int x] (wN ma cI th n sw st b r T sc fi mi fa K) (fun zr _ => zr = nI 0) (fun _ => wN ma cI (nI 1) n sw st b r T sc fi mi fa K) 0 0 := by
  refine MI_of (by decide) (Nat.le_of_ble_eq_true rfl) [(0, .ref (ma 0)), (1, .int x)] rfl ?_
  intro p e s m below meth c hC hr hlocks hname
  have hC : Cx p s m _ c cX3_scoreOf 2 RX3 G (tY cI cZ cJ) _ := hC
  refine z_aload_n (n := 1) hC dX3_scoreOf_0 rfl 0 rfl rfl ?_
  refine z_iload_n (n := 2) hC dX3_scoreOf_1 rfl 1 rfl rfl ?_
  refine z_iconst (v := nI 1) (n := 3) hC dX3_scoreOf_2 (by decide) rfl ?_
  refine z_calli (R := { frames := 3, cells := 0, slots := 0, locals := 65 }) (cells := 0) (slots := 0) (ws := wN ma cI th n sw st b r T sc fi mi fa K) (n := 6) (As := [.int x, .int (nI 1)]) (rest := []) hC (k_X3_ofGun_sc_x l G cI cZ cJ ma th n sw st b r T sc fi mi fa K x (by omega) (by omega) hb) kg_X3_114 kd_yX3_ofGun dX3_scoreOf_3 ⟨Nat.le_of_ble_eq_true rfl, Nat.le_of_ble_eq_true rfl⟩ 0 rfl rfl rfl [0, 1, 2, 3, 4, 5, 6] rfl (by decide) rfl (Nat.le_of_ble_eq_true rfl) ⟨Nat.le_of_ble_eq_true rfl, Nat.le_of_ble_eq_true rfl⟩ (ws2 := fun u1 => wN ma cI (nI 1) n sw st b r T sc fi mi fa K) [] (fun _ => rfl) ([]) (fun _ => rfl) rfl (fun _ => rfl) [ma 0, ma 1, ma 2, ma 3, ma 4, ma 5, ma 6] (fun _ => rfl) rfl rfl rfl (fun r2 u1 h3 => ?_)
  subst h3
  refine z_iret hC hr hlocks () ?_ rfl dX3_scoreOf_6 (by omega) (by omega)
  rfl

set_option maxRecDepth 100000 in
set_option maxHeartbeats 4000000 in
theorem k_X3_ofGun_fi (l : Launch) (G : va_G) (cI cZ cJ : ClassId) (ma : Nat → Nat) (th : Int32) (n : Nat) (sw : Nat → Int32) (st : Nat → Int32) (b : Nat → Int32) (r : Nat → Int32) (T : Nat) (sc : Nat → Int32) (fi : Nat → Int32) (mi : Nat → Int32) (fa : Nat → Int32) (K : Nat → Int32) (g : Nat) (hn : n ≤ 6) (hT : T + 200 < 2 ^ 29) (hg : g < n) : MI (Unit) l yX3_ofGun cX3_ofGun 3 2 43 G (tY cI cZ cJ) [.ref (ma 0), .int (nI g), .int (nI 7)] (wN ma cI th n sw st b r T sc fi mi fa K) (fun zr _ => zr = fi g) (fun _ => wN ma cI (nI 0) n sw st b r T sc fi mi fa K) 0 0 := by
  refine MI_of (by decide) (Nat.le_of_ble_eq_true rfl) [(0, .ref (ma 0)), (1, .int (nI g)), (2, .int (nI 7))] rfl ?_
  intro p e s m below meth c hC hr hlocks hname
  have hC : Cx p s m _ c cX3_ofGun 3 RX3 G (tY cI cZ cJ) _ := hC
  refine z_aload_n (n := 1) hC dX3_ofGun_0 rfl 0 rfl rfl ?_
  refine z_iconst (v := nI 0) (n := 2) hC dX3_ofGun_1 (by decide) rfl ?_
  refine pf_X3_28 (ws' := wN ma cI (nI 0) n sw st b r T sc fi mi fa K) (n := 5) hC 0 rfl (Nat.le_of_ble_eq_true rfl) dX3_ofGun_2 rfl rfl ?_
  refine z_aload_n (n := 6) hC dX3_ofGun_5 rfl 0 rfl rfl ?_
  refine z_iload_n (n := 7) hC dX3_ofGun_6 rfl 1 rfl rfl ?_
  refine z_callb (R := { frames := 2, cells := 0, slots := 0, locals := 43 }) (cells := 0) (slots := 0) (ws := wN ma cI (nI 0) n sw st b r T sc fi mi fa K) (n := 10) (As := [.int (nI g)]) (rest := []) hC (k_X3_isGun_t l G cI cZ cJ ma (nI 0) n sw st b r T sc fi mi fa K g (by omega) hg) kg_X3_95 kd_yX3_isGun dX3_ofGun_7 ⟨Nat.le_of_ble_eq_true rfl, Nat.le_of_ble_eq_true rfl⟩ 0 rfl rfl rfl [0, 1, 2, 3, 4, 5, 6] rfl (by decide) rfl (Nat.le_of_ble_eq_true rfl) ⟨Nat.le_of_ble_eq_true rfl, Nat.le_of_ble_eq_true rfl⟩ (ws2 := fun u1 => wN ma cI (nI 0) n sw st b r T sc fi mi fa K) [] (fun _ => rfl) ([]) (fun _ => rfl) rfl (fun _ => rfl) [ma 0, ma 1, ma 2, ma 3, ma 4, ma 5, ma 6] (fun _ => rfl) rfl rfl rfl (fun r2 u1 h3 => ?_)
  subst h3
  refine z_if_eq_b (tgt := 24) (n := 13) hC true rfl dX3_ofGun_10 (by decide) rfl (fun c4 => absurd c4 (by decide)) (fun c4 => ?_)
  refine z_aload_n (n := 14) hC dX3_ofGun_13 rfl 0 rfl rfl ?_
  refine gf_X3_22 (v := .ref (ma 5)) (n := 17) hC 0 rfl rfl dX3_ofGun_14 rfl ?_
  refine z_iload_n (n := 18) hC dX3_ofGun_17 rfl 2 rfl rfl ?_
  refine z_iload_n (n := 19) hC dX3_ofGun_18 rfl 1 rfl rfl ?_
  refine z_iadd (v := nI (7 + g)) (n := 20) hC dX3_ofGun_19 (nI_add 7 g) rfl ?_
  refine z_iald (v := fi g) (n := 21) hC 5 0 (7 + g) rfl rfl rfl (by omega) (by decide) dX3_ofGun_20 (nw_fi (by omega)) rfl ?_
  refine z_goto (n := 29) hC dX3_ofGun_21 (by decide) ?_
  refine z_iret hC hr hlocks () ?_ rfl dX3_ofGun_29 (by omega) (by omega)
  rfl

set_option maxRecDepth 100000 in
set_option maxHeartbeats 4000000 in
theorem k_X3_ofGun_fi_x (l : Launch) (G : va_G) (cI cZ cJ : ClassId) (ma : Nat → Nat) (th : Int32) (n : Nat) (sw : Nat → Int32) (st : Nat → Int32) (b : Nat → Int32) (r : Nat → Int32) (T : Nat) (sc : Nat → Int32) (fi : Nat → Int32) (mi : Nat → Int32) (fa : Nat → Int32) (K : Nat → Int32) (x : Int32) (hn : n ≤ 6) (hT : T + 200 < 2 ^ 29) (hb : x < 0 ∨ nI n ≤ x) : MI (Unit) l yX3_ofGun cX3_ofGun 3 2 43 G (tY cI cZ cJ) [.ref (ma 0), .int x, .int (nI 7)] (wN ma cI th n sw st b r T sc fi mi fa K) (fun zr _ => zr = nI 0) (fun _ => wN ma cI (nI 1) n sw st b r T sc fi mi fa K) 0 0 := by
  refine MI_of (by decide) (Nat.le_of_ble_eq_true rfl) [(0, .ref (ma 0)), (1, .int x), (2, .int (nI 7))] rfl ?_
  intro p e s m below meth c hC hr hlocks hname
  have hC : Cx p s m _ c cX3_ofGun 3 RX3 G (tY cI cZ cJ) _ := hC
  refine z_aload_n (n := 1) hC dX3_ofGun_0 rfl 0 rfl rfl ?_
  refine z_iconst (v := nI 0) (n := 2) hC dX3_ofGun_1 (by decide) rfl ?_
  refine pf_X3_28 (ws' := wN ma cI (nI 0) n sw st b r T sc fi mi fa K) (n := 5) hC 0 rfl (Nat.le_of_ble_eq_true rfl) dX3_ofGun_2 rfl rfl ?_
  refine z_aload_n (n := 6) hC dX3_ofGun_5 rfl 0 rfl rfl ?_
  refine z_iload_n (n := 7) hC dX3_ofGun_6 rfl 1 rfl rfl ?_
  refine z_callb (R := { frames := 2, cells := 0, slots := 0, locals := 43 }) (cells := 0) (slots := 0) (ws := wN ma cI (nI 0) n sw st b r T sc fi mi fa K) (n := 10) (As := [.int x]) (rest := []) hC (k_X3_isGun_f l G cI cZ cJ ma (nI 0) n sw st b r T sc fi mi fa K x (by omega) hb) kg_X3_95 kd_yX3_isGun dX3_ofGun_7 ⟨Nat.le_of_ble_eq_true rfl, Nat.le_of_ble_eq_true rfl⟩ 0 rfl rfl rfl [0, 1, 2, 3, 4, 5, 6] rfl (by decide) rfl (Nat.le_of_ble_eq_true rfl) ⟨Nat.le_of_ble_eq_true rfl, Nat.le_of_ble_eq_true rfl⟩ (ws2 := fun u1 => wN ma cI (nI 0) n sw st b r T sc fi mi fa K) [] (fun _ => rfl) ([]) (fun _ => rfl) rfl (fun _ => rfl) [ma 0, ma 1, ma 2, ma 3, ma 4, ma 5, ma 6] (fun _ => rfl) rfl rfl rfl (fun r2 u1 h3 => ?_)
  subst h3
  refine z_if_eq_b (tgt := 24) (n := 13) hC false rfl dX3_ofGun_10 (by decide) rfl (fun c4 => ?_) (fun c4 => absurd c4 (by decide))
  refine z_aload_n (n := 25) hC dX3_ofGun_24 rfl 0 rfl rfl ?_
  refine z_iconst (v := nI 1) (n := 26) hC dX3_ofGun_25 (by decide) rfl ?_
  refine z_calli (R := { frames := 2, cells := 0, slots := 0, locals := 43 }) (cells := 0) (slots := 0) (ws := wN ma cI (nI 0) n sw st b r T sc fi mi fa K) (n := 29) (As := [.int (nI 1)]) (rest := []) hC (k_X3_no l G cI cZ cJ ma (nI 0) n sw st b r T sc fi mi fa K (nI 1) (by omega) (by omega)) kg_X3_92 kd_yX3_no dX3_ofGun_26 ⟨Nat.le_of_ble_eq_true rfl, Nat.le_of_ble_eq_true rfl⟩ 0 rfl rfl rfl [0, 1, 2, 3, 4, 5, 6] rfl (by decide) rfl (Nat.le_of_ble_eq_true rfl) ⟨Nat.le_of_ble_eq_true rfl, Nat.le_of_ble_eq_true rfl⟩ (ws2 := fun u5 => wN ma cI (nI 1) n sw st b r T sc fi mi fa K) [] (fun _ => rfl) ([]) (fun _ => rfl) rfl (fun _ => rfl) [ma 0, ma 1, ma 2, ma 3, ma 4, ma 5, ma 6] (fun _ => rfl) rfl rfl rfl (fun r6 u5 h7 => ?_)
  subst h7
  refine z_iret hC hr hlocks () ?_ rfl dX3_ofGun_29 (by omega) (by omega)
  rfl

set_option maxRecDepth 100000 in
set_option maxHeartbeats 4000000 in
theorem k_X3_firstsOf (l : Launch) (G : va_G) (cI cZ cJ : ClassId) (ma : Nat → Nat) (th : Int32) (n : Nat) (sw : Nat → Int32) (st : Nat → Int32) (b : Nat → Int32) (r : Nat → Int32) (T : Nat) (sc : Nat → Int32) (fi : Nat → Int32) (mi : Nat → Int32) (fa : Nat → Int32) (K : Nat → Int32) (g : Nat) (hn : n ≤ 6) (hT : T + 200 < 2 ^ 29) (hg : g < n) : MI (Unit) l yX3_firstsOf cX3_firstsOf 2 3 65 G (tY cI cZ cJ) [.ref (ma 0), .int (nI g)] (wN ma cI th n sw st b r T sc fi mi fa K) (fun zr _ => zr = fi g) (fun _ => wN ma cI (nI 0) n sw st b r T sc fi mi fa K) 0 0 := by
  refine MI_of (by decide) (Nat.le_of_ble_eq_true rfl) [(0, .ref (ma 0)), (1, .int (nI g))] rfl ?_
  intro p e s m below meth c hC hr hlocks hname
  have hC : Cx p s m _ c cX3_firstsOf 2 RX3 G (tY cI cZ cJ) _ := hC
  refine z_aload_n (n := 1) hC dX3_firstsOf_0 rfl 0 rfl rfl ?_
  refine z_iload_n (n := 2) hC dX3_firstsOf_1 rfl 1 rfl rfl ?_
  refine z_bipush (v := nI 7) (n := 4) hC dX3_firstsOf_2 (by decide) rfl ?_
  refine z_calli (R := { frames := 3, cells := 0, slots := 0, locals := 65 }) (cells := 0) (slots := 0) (ws := wN ma cI th n sw st b r T sc fi mi fa K) (n := 7) (As := [.int (nI g), .int (nI 7)]) (rest := []) hC (k_X3_ofGun_fi l G cI cZ cJ ma th n sw st b r T sc fi mi fa K g (by omega) (by omega) hg) kg_X3_114 kd_yX3_ofGun dX3_firstsOf_4 ⟨Nat.le_of_ble_eq_true rfl, Nat.le_of_ble_eq_true rfl⟩ 0 rfl rfl rfl [0, 1, 2, 3, 4, 5, 6] rfl (by decide) rfl (Nat.le_of_ble_eq_true rfl) ⟨Nat.le_of_ble_eq_true rfl, Nat.le_of_ble_eq_true rfl⟩ (ws2 := fun u1 => wN ma cI (nI 0) n sw st b r T sc fi mi fa K) [] (fun _ => rfl) ([]) (fun _ => rfl) rfl (fun _ => rfl) [ma 0, ma 1, ma 2, ma 3, ma 4, ma 5, ma 6] (fun _ => rfl) rfl rfl rfl (fun r2 u1 h3 => ?_)
  subst h3
  refine z_iret hC hr hlocks () ?_ rfl dX3_firstsOf_7 (by omega) (by omega)
  rfl

set_option maxRecDepth 100000 in
set_option maxHeartbeats 4000000 in
theorem k_X3_firstsOf_x (l : Launch) (G : va_G) (cI cZ cJ : ClassId) (ma : Nat → Nat) (th : Int32) (n : Nat) (sw : Nat → Int32) (st : Nat → Int32) (b : Nat → Int32) (r : Nat → Int32) (T : Nat) (sc : Nat → Int32) (fi : Nat → Int32) (mi : Nat → Int32) (fa : Nat → Int32) (K : Nat → Int32) (x : Int32) (hn : n ≤ 6) (hT : T + 200 < 2 ^ 29) (hb : x < 0 ∨ nI n ≤ x) : MI (Unit) l yX3_firstsOf cX3_firstsOf 2 3 65 G (tY cI cZ cJ) [.ref (ma 0), .int x] (wN ma cI th n sw st b r T sc fi mi fa K) (fun zr _ => zr = nI 0) (fun _ => wN ma cI (nI 1) n sw st b r T sc fi mi fa K) 0 0 := by
  refine MI_of (by decide) (Nat.le_of_ble_eq_true rfl) [(0, .ref (ma 0)), (1, .int x)] rfl ?_
  intro p e s m below meth c hC hr hlocks hname
  have hC : Cx p s m _ c cX3_firstsOf 2 RX3 G (tY cI cZ cJ) _ := hC
  refine z_aload_n (n := 1) hC dX3_firstsOf_0 rfl 0 rfl rfl ?_
  refine z_iload_n (n := 2) hC dX3_firstsOf_1 rfl 1 rfl rfl ?_
  refine z_bipush (v := nI 7) (n := 4) hC dX3_firstsOf_2 (by decide) rfl ?_
  refine z_calli (R := { frames := 3, cells := 0, slots := 0, locals := 65 }) (cells := 0) (slots := 0) (ws := wN ma cI th n sw st b r T sc fi mi fa K) (n := 7) (As := [.int x, .int (nI 7)]) (rest := []) hC (k_X3_ofGun_fi_x l G cI cZ cJ ma th n sw st b r T sc fi mi fa K x (by omega) (by omega) hb) kg_X3_114 kd_yX3_ofGun dX3_firstsOf_4 ⟨Nat.le_of_ble_eq_true rfl, Nat.le_of_ble_eq_true rfl⟩ 0 rfl rfl rfl [0, 1, 2, 3, 4, 5, 6] rfl (by decide) rfl (Nat.le_of_ble_eq_true rfl) ⟨Nat.le_of_ble_eq_true rfl, Nat.le_of_ble_eq_true rfl⟩ (ws2 := fun u1 => wN ma cI (nI 1) n sw st b r T sc fi mi fa K) [] (fun _ => rfl) ([]) (fun _ => rfl) rfl (fun _ => rfl) [ma 0, ma 1, ma 2, ma 3, ma 4, ma 5, ma 6] (fun _ => rfl) rfl rfl rfl (fun r2 u1 h3 => ?_)
  subst h3
  refine z_iret hC hr hlocks () ?_ rfl dX3_firstsOf_7 (by omega) (by omega)
  rfl

set_option maxRecDepth 100000 in
set_option maxHeartbeats 4000000 in
theorem k_X3_ofGun_mi (l : Launch) (G : va_G) (cI cZ cJ : ClassId) (ma : Nat → Nat) (th : Int32) (n : Nat) (sw : Nat → Int32) (st : Nat → Int32) (b : Nat → Int32) (r : Nat → Int32) (T : Nat) (sc : Nat → Int32) (fi : Nat → Int32) (mi : Nat → Int32) (fa : Nat → Int32) (K : Nat → Int32) (g : Nat) (hn : n ≤ 6) (hT : T + 200 < 2 ^ 29) (hg : g < n) : MI (Unit) l yX3_ofGun cX3_ofGun 3 2 43 G (tY cI cZ cJ) [.ref (ma 0), .int (nI g), .int (nI 13)] (wN ma cI th n sw st b r T sc fi mi fa K) (fun zr _ => zr = mi g) (fun _ => wN ma cI (nI 0) n sw st b r T sc fi mi fa K) 0 0 := by
  refine MI_of (by decide) (Nat.le_of_ble_eq_true rfl) [(0, .ref (ma 0)), (1, .int (nI g)), (2, .int (nI 13))] rfl ?_
  intro p e s m below meth c hC hr hlocks hname
  have hC : Cx p s m _ c cX3_ofGun 3 RX3 G (tY cI cZ cJ) _ := hC
  refine z_aload_n (n := 1) hC dX3_ofGun_0 rfl 0 rfl rfl ?_
  refine z_iconst (v := nI 0) (n := 2) hC dX3_ofGun_1 (by decide) rfl ?_
  refine pf_X3_28 (ws' := wN ma cI (nI 0) n sw st b r T sc fi mi fa K) (n := 5) hC 0 rfl (Nat.le_of_ble_eq_true rfl) dX3_ofGun_2 rfl rfl ?_
  refine z_aload_n (n := 6) hC dX3_ofGun_5 rfl 0 rfl rfl ?_
  refine z_iload_n (n := 7) hC dX3_ofGun_6 rfl 1 rfl rfl ?_
  refine z_callb (R := { frames := 2, cells := 0, slots := 0, locals := 43 }) (cells := 0) (slots := 0) (ws := wN ma cI (nI 0) n sw st b r T sc fi mi fa K) (n := 10) (As := [.int (nI g)]) (rest := []) hC (k_X3_isGun_t l G cI cZ cJ ma (nI 0) n sw st b r T sc fi mi fa K g (by omega) hg) kg_X3_95 kd_yX3_isGun dX3_ofGun_7 ⟨Nat.le_of_ble_eq_true rfl, Nat.le_of_ble_eq_true rfl⟩ 0 rfl rfl rfl [0, 1, 2, 3, 4, 5, 6] rfl (by decide) rfl (Nat.le_of_ble_eq_true rfl) ⟨Nat.le_of_ble_eq_true rfl, Nat.le_of_ble_eq_true rfl⟩ (ws2 := fun u1 => wN ma cI (nI 0) n sw st b r T sc fi mi fa K) [] (fun _ => rfl) ([]) (fun _ => rfl) rfl (fun _ => rfl) [ma 0, ma 1, ma 2, ma 3, ma 4, ma 5, ma 6] (fun _ => rfl) rfl rfl rfl (fun r2 u1 h3 => ?_)
  subst h3
  refine z_if_eq_b (tgt := 24) (n := 13) hC true rfl dX3_ofGun_10 (by decide) rfl (fun c4 => absurd c4 (by decide)) (fun c4 => ?_)
  refine z_aload_n (n := 14) hC dX3_ofGun_13 rfl 0 rfl rfl ?_
  refine gf_X3_22 (v := .ref (ma 5)) (n := 17) hC 0 rfl rfl dX3_ofGun_14 rfl ?_
  refine z_iload_n (n := 18) hC dX3_ofGun_17 rfl 2 rfl rfl ?_
  refine z_iload_n (n := 19) hC dX3_ofGun_18 rfl 1 rfl rfl ?_
  refine z_iadd (v := nI (13 + g)) (n := 20) hC dX3_ofGun_19 (nI_add 13 g) rfl ?_
  refine z_iald (v := mi g) (n := 21) hC 5 0 (13 + g) rfl rfl rfl (by omega) (by decide) dX3_ofGun_20 (nw_mi (by omega)) rfl ?_
  refine z_goto (n := 29) hC dX3_ofGun_21 (by decide) ?_
  refine z_iret hC hr hlocks () ?_ rfl dX3_ofGun_29 (by omega) (by omega)
  rfl

set_option maxRecDepth 100000 in
set_option maxHeartbeats 4000000 in
theorem k_X3_ofGun_mi_x (l : Launch) (G : va_G) (cI cZ cJ : ClassId) (ma : Nat → Nat) (th : Int32) (n : Nat) (sw : Nat → Int32) (st : Nat → Int32) (b : Nat → Int32) (r : Nat → Int32) (T : Nat) (sc : Nat → Int32) (fi : Nat → Int32) (mi : Nat → Int32) (fa : Nat → Int32) (K : Nat → Int32) (x : Int32) (hn : n ≤ 6) (hT : T + 200 < 2 ^ 29) (hb : x < 0 ∨ nI n ≤ x) : MI (Unit) l yX3_ofGun cX3_ofGun 3 2 43 G (tY cI cZ cJ) [.ref (ma 0), .int x, .int (nI 13)] (wN ma cI th n sw st b r T sc fi mi fa K) (fun zr _ => zr = nI 0) (fun _ => wN ma cI (nI 1) n sw st b r T sc fi mi fa K) 0 0 := by
  refine MI_of (by decide) (Nat.le_of_ble_eq_true rfl) [(0, .ref (ma 0)), (1, .int x), (2, .int (nI 13))] rfl ?_
  intro p e s m below meth c hC hr hlocks hname
  have hC : Cx p s m _ c cX3_ofGun 3 RX3 G (tY cI cZ cJ) _ := hC
  refine z_aload_n (n := 1) hC dX3_ofGun_0 rfl 0 rfl rfl ?_
  refine z_iconst (v := nI 0) (n := 2) hC dX3_ofGun_1 (by decide) rfl ?_
  refine pf_X3_28 (ws' := wN ma cI (nI 0) n sw st b r T sc fi mi fa K) (n := 5) hC 0 rfl (Nat.le_of_ble_eq_true rfl) dX3_ofGun_2 rfl rfl ?_
  refine z_aload_n (n := 6) hC dX3_ofGun_5 rfl 0 rfl rfl ?_
  refine z_iload_n (n := 7) hC dX3_ofGun_6 rfl 1 rfl rfl ?_
  refine z_callb (R := { frames := 2, cells := 0, slots := 0, locals := 43 }) (cells := 0) (slots := 0) (ws := wN ma cI (nI 0) n sw st b r T sc fi mi fa K) (n := 10) (As := [.int x]) (rest := []) hC (k_X3_isGun_f l G cI cZ cJ ma (nI 0) n sw st b r T sc fi mi fa K x (by omega) hb) kg_X3_95 kd_yX3_isGun dX3_ofGun_7 ⟨Nat.le_of_ble_eq_true rfl, Nat.le_of_ble_eq_true rfl⟩ 0 rfl rfl rfl [0, 1, 2, 3, 4, 5, 6] rfl (by decide) rfl (Nat.le_of_ble_eq_true rfl) ⟨Nat.le_of_ble_eq_true rfl, Nat.le_of_ble_eq_true rfl⟩ (ws2 := fun u1 => wN ma cI (nI 0) n sw st b r T sc fi mi fa K) [] (fun _ => rfl) ([]) (fun _ => rfl) rfl (fun _ => rfl) [ma 0, ma 1, ma 2, ma 3, ma 4, ma 5, ma 6] (fun _ => rfl) rfl rfl rfl (fun r2 u1 h3 => ?_)
  subst h3
  refine z_if_eq_b (tgt := 24) (n := 13) hC false rfl dX3_ofGun_10 (by decide) rfl (fun c4 => ?_) (fun c4 => absurd c4 (by decide))
  refine z_aload_n (n := 25) hC dX3_ofGun_24 rfl 0 rfl rfl ?_
  refine z_iconst (v := nI 1) (n := 26) hC dX3_ofGun_25 (by decide) rfl ?_
  refine z_calli (R := { frames := 2, cells := 0, slots := 0, locals := 43 }) (cells := 0) (slots := 0) (ws := wN ma cI (nI 0) n sw st b r T sc fi mi fa K) (n := 29) (As := [.int (nI 1)]) (rest := []) hC (k_X3_no l G cI cZ cJ ma (nI 0) n sw st b r T sc fi mi fa K (nI 1) (by omega) (by omega)) kg_X3_92 kd_yX3_no dX3_ofGun_26 ⟨Nat.le_of_ble_eq_true rfl, Nat.le_of_ble_eq_true rfl⟩ 0 rfl rfl rfl [0, 1, 2, 3, 4, 5, 6] rfl (by decide) rfl (Nat.le_of_ble_eq_true rfl) ⟨Nat.le_of_ble_eq_true rfl, Nat.le_of_ble_eq_true rfl⟩ (ws2 := fun u5 => wN ma cI (nI 1) n sw st b r T sc fi mi fa K) [] (fun _ => rfl) ([]) (fun _ => rfl) rfl (fun _ => rfl) [ma 0, ma 1, ma 2, ma 3, ma 4, ma 5, ma 6] (fun _ => rfl) rfl rfl rfl (fun r6 u5 h7 => ?_)
  subst h7
  refine z_iret hC hr hlocks () ?_ rfl dX3_ofGun_29 (by omega) (by omega)
  rfl

set_option maxRecDepth 100000 in
set_option maxHeartbeats 4000000 in
theorem k_X3_missesOf (l : Launch) (G : va_G) (cI cZ cJ : ClassId) (ma : Nat → Nat) (th : Int32) (n : Nat) (sw : Nat → Int32) (st : Nat → Int32) (b : Nat → Int32) (r : Nat → Int32) (T : Nat) (sc : Nat → Int32) (fi : Nat → Int32) (mi : Nat → Int32) (fa : Nat → Int32) (K : Nat → Int32) (g : Nat) (hn : n ≤ 6) (hT : T + 200 < 2 ^ 29) (hg : g < n) : MI (Unit) l yX3_missesOf cX3_missesOf 2 3 65 G (tY cI cZ cJ) [.ref (ma 0), .int (nI g)] (wN ma cI th n sw st b r T sc fi mi fa K) (fun zr _ => zr = mi g) (fun _ => wN ma cI (nI 0) n sw st b r T sc fi mi fa K) 0 0 := by
  refine MI_of (by decide) (Nat.le_of_ble_eq_true rfl) [(0, .ref (ma 0)), (1, .int (nI g))] rfl ?_
  intro p e s m below meth c hC hr hlocks hname
  have hC : Cx p s m _ c cX3_missesOf 2 RX3 G (tY cI cZ cJ) _ := hC
  refine z_aload_n (n := 1) hC dX3_missesOf_0 rfl 0 rfl rfl ?_
  refine z_iload_n (n := 2) hC dX3_missesOf_1 rfl 1 rfl rfl ?_
  refine z_bipush (v := nI 13) (n := 4) hC dX3_missesOf_2 (by decide) rfl ?_
  refine z_calli (R := { frames := 3, cells := 0, slots := 0, locals := 65 }) (cells := 0) (slots := 0) (ws := wN ma cI th n sw st b r T sc fi mi fa K) (n := 7) (As := [.int (nI g), .int (nI 13)]) (rest := []) hC (k_X3_ofGun_mi l G cI cZ cJ ma th n sw st b r T sc fi mi fa K g (by omega) (by omega) hg) kg_X3_114 kd_yX3_ofGun dX3_missesOf_4 ⟨Nat.le_of_ble_eq_true rfl, Nat.le_of_ble_eq_true rfl⟩ 0 rfl rfl rfl [0, 1, 2, 3, 4, 5, 6] rfl (by decide) rfl (Nat.le_of_ble_eq_true rfl) ⟨Nat.le_of_ble_eq_true rfl, Nat.le_of_ble_eq_true rfl⟩ (ws2 := fun u1 => wN ma cI (nI 0) n sw st b r T sc fi mi fa K) [] (fun _ => rfl) ([]) (fun _ => rfl) rfl (fun _ => rfl) [ma 0, ma 1, ma 2, ma 3, ma 4, ma 5, ma 6] (fun _ => rfl) rfl rfl rfl (fun r2 u1 h3 => ?_)
  subst h3
  refine z_iret hC hr hlocks () ?_ rfl dX3_missesOf_7 (by omega) (by omega)
  rfl

set_option maxRecDepth 100000 in
set_option maxHeartbeats 4000000 in
theorem k_X3_missesOf_x (l : Launch) (G : va_G) (cI cZ cJ : ClassId) (ma : Nat → Nat) (th : Int32) (n : Nat) (sw : Nat → Int32) (st : Nat → Int32) (b : Nat → Int32) (r : Nat → Int32) (T : Nat) (sc : Nat → Int32) (fi : Nat → Int32) (mi : Nat → Int32) (fa : Nat → Int32) (K : Nat → Int32) (x : Int32) (hn : n ≤ 6) (hT : T + 200 < 2 ^ 29) (hb : x < 0 ∨ nI n ≤ x) : MI (Unit) l yX3_missesOf cX3_missesOf 2 3 65 G (tY cI cZ cJ) [.ref (ma 0), .int x] (wN ma cI th n sw st b r T sc fi mi fa K) (fun zr _ => zr = nI 0) (fun _ => wN ma cI (nI 1) n sw st b r T sc fi mi fa K) 0 0 := by
  refine MI_of (by decide) (Nat.le_of_ble_eq_true rfl) [(0, .ref (ma 0)), (1, .int x)] rfl ?_
  intro p e s m below meth c hC hr hlocks hname
  have hC : Cx p s m _ c cX3_missesOf 2 RX3 G (tY cI cZ cJ) _ := hC
  refine z_aload_n (n := 1) hC dX3_missesOf_0 rfl 0 rfl rfl ?_
  refine z_iload_n (n := 2) hC dX3_missesOf_1 rfl 1 rfl rfl ?_
  refine z_bipush (v := nI 13) (n := 4) hC dX3_missesOf_2 (by decide) rfl ?_
  refine z_calli (R := { frames := 3, cells := 0, slots := 0, locals := 65 }) (cells := 0) (slots := 0) (ws := wN ma cI th n sw st b r T sc fi mi fa K) (n := 7) (As := [.int x, .int (nI 13)]) (rest := []) hC (k_X3_ofGun_mi_x l G cI cZ cJ ma th n sw st b r T sc fi mi fa K x (by omega) (by omega) hb) kg_X3_114 kd_yX3_ofGun dX3_missesOf_4 ⟨Nat.le_of_ble_eq_true rfl, Nat.le_of_ble_eq_true rfl⟩ 0 rfl rfl rfl [0, 1, 2, 3, 4, 5, 6] rfl (by decide) rfl (Nat.le_of_ble_eq_true rfl) ⟨Nat.le_of_ble_eq_true rfl, Nat.le_of_ble_eq_true rfl⟩ (ws2 := fun u1 => wN ma cI (nI 1) n sw st b r T sc fi mi fa K) [] (fun _ => rfl) ([]) (fun _ => rfl) rfl (fun _ => rfl) [ma 0, ma 1, ma 2, ma 3, ma 4, ma 5, ma 6] (fun _ => rfl) rfl rfl rfl (fun r2 u1 h3 => ?_)
  subst h3
  refine z_iret hC hr hlocks () ?_ rfl dX3_missesOf_7 (by omega) (by omega)
  rfl

set_option maxRecDepth 100000 in
set_option maxHeartbeats 4000000 in
theorem k_X3_ofGun_fa (l : Launch) (G : va_G) (cI cZ cJ : ClassId) (ma : Nat → Nat) (th : Int32) (n : Nat) (sw : Nat → Int32) (st : Nat → Int32) (b : Nat → Int32) (r : Nat → Int32) (T : Nat) (sc : Nat → Int32) (fi : Nat → Int32) (mi : Nat → Int32) (fa : Nat → Int32) (K : Nat → Int32) (g : Nat) (hn : n ≤ 6) (hT : T + 200 < 2 ^ 29) (hg : g < n) : MI (Unit) l yX3_ofGun cX3_ofGun 3 2 43 G (tY cI cZ cJ) [.ref (ma 0), .int (nI g), .int (nI 19)] (wN ma cI th n sw st b r T sc fi mi fa K) (fun zr _ => zr = fa g) (fun _ => wN ma cI (nI 0) n sw st b r T sc fi mi fa K) 0 0 := by
  refine MI_of (by decide) (Nat.le_of_ble_eq_true rfl) [(0, .ref (ma 0)), (1, .int (nI g)), (2, .int (nI 19))] rfl ?_
  intro p e s m below meth c hC hr hlocks hname
  have hC : Cx p s m _ c cX3_ofGun 3 RX3 G (tY cI cZ cJ) _ := hC
  refine z_aload_n (n := 1) hC dX3_ofGun_0 rfl 0 rfl rfl ?_
  refine z_iconst (v := nI 0) (n := 2) hC dX3_ofGun_1 (by decide) rfl ?_
  refine pf_X3_28 (ws' := wN ma cI (nI 0) n sw st b r T sc fi mi fa K) (n := 5) hC 0 rfl (Nat.le_of_ble_eq_true rfl) dX3_ofGun_2 rfl rfl ?_
  refine z_aload_n (n := 6) hC dX3_ofGun_5 rfl 0 rfl rfl ?_
  refine z_iload_n (n := 7) hC dX3_ofGun_6 rfl 1 rfl rfl ?_
  refine z_callb (R := { frames := 2, cells := 0, slots := 0, locals := 43 }) (cells := 0) (slots := 0) (ws := wN ma cI (nI 0) n sw st b r T sc fi mi fa K) (n := 10) (As := [.int (nI g)]) (rest := []) hC (k_X3_isGun_t l G cI cZ cJ ma (nI 0) n sw st b r T sc fi mi fa K g (by omega) hg) kg_X3_95 kd_yX3_isGun dX3_ofGun_7 ⟨Nat.le_of_ble_eq_true rfl, Nat.le_of_ble_eq_true rfl⟩ 0 rfl rfl rfl [0, 1, 2, 3, 4, 5, 6] rfl (by decide) rfl (Nat.le_of_ble_eq_true rfl) ⟨Nat.le_of_ble_eq_true rfl, Nat.le_of_ble_eq_true rfl⟩ (ws2 := fun u1 => wN ma cI (nI 0) n sw st b r T sc fi mi fa K) [] (fun _ => rfl) ([]) (fun _ => rfl) rfl (fun _ => rfl) [ma 0, ma 1, ma 2, ma 3, ma 4, ma 5, ma 6] (fun _ => rfl) rfl rfl rfl (fun r2 u1 h3 => ?_)
  subst h3
  refine z_if_eq_b (tgt := 24) (n := 13) hC true rfl dX3_ofGun_10 (by decide) rfl (fun c4 => absurd c4 (by decide)) (fun c4 => ?_)
  refine z_aload_n (n := 14) hC dX3_ofGun_13 rfl 0 rfl rfl ?_
  refine gf_X3_22 (v := .ref (ma 5)) (n := 17) hC 0 rfl rfl dX3_ofGun_14 rfl ?_
  refine z_iload_n (n := 18) hC dX3_ofGun_17 rfl 2 rfl rfl ?_
  refine z_iload_n (n := 19) hC dX3_ofGun_18 rfl 1 rfl rfl ?_
  refine z_iadd (v := nI (19 + g)) (n := 20) hC dX3_ofGun_19 (nI_add 19 g) rfl ?_
  refine z_iald (v := fa g) (n := 21) hC 5 0 (19 + g) rfl rfl rfl (by omega) (by decide) dX3_ofGun_20 (nw_fa) rfl ?_
  refine z_goto (n := 29) hC dX3_ofGun_21 (by decide) ?_
  refine z_iret hC hr hlocks () ?_ rfl dX3_ofGun_29 (by omega) (by omega)
  rfl

set_option maxRecDepth 100000 in
set_option maxHeartbeats 4000000 in
theorem k_X3_ofGun_fa_x (l : Launch) (G : va_G) (cI cZ cJ : ClassId) (ma : Nat → Nat) (th : Int32) (n : Nat) (sw : Nat → Int32) (st : Nat → Int32) (b : Nat → Int32) (r : Nat → Int32) (T : Nat) (sc : Nat → Int32) (fi : Nat → Int32) (mi : Nat → Int32) (fa : Nat → Int32) (K : Nat → Int32) (x : Int32) (hn : n ≤ 6) (hT : T + 200 < 2 ^ 29) (hb : x < 0 ∨ nI n ≤ x) : MI (Unit) l yX3_ofGun cX3_ofGun 3 2 43 G (tY cI cZ cJ) [.ref (ma 0), .int x, .int (nI 19)] (wN ma cI th n sw st b r T sc fi mi fa K) (fun zr _ => zr = nI 0) (fun _ => wN ma cI (nI 1) n sw st b r T sc fi mi fa K) 0 0 := by
  refine MI_of (by decide) (Nat.le_of_ble_eq_true rfl) [(0, .ref (ma 0)), (1, .int x), (2, .int (nI 19))] rfl ?_
  intro p e s m below meth c hC hr hlocks hname
  have hC : Cx p s m _ c cX3_ofGun 3 RX3 G (tY cI cZ cJ) _ := hC
  refine z_aload_n (n := 1) hC dX3_ofGun_0 rfl 0 rfl rfl ?_
  refine z_iconst (v := nI 0) (n := 2) hC dX3_ofGun_1 (by decide) rfl ?_
  refine pf_X3_28 (ws' := wN ma cI (nI 0) n sw st b r T sc fi mi fa K) (n := 5) hC 0 rfl (Nat.le_of_ble_eq_true rfl) dX3_ofGun_2 rfl rfl ?_
  refine z_aload_n (n := 6) hC dX3_ofGun_5 rfl 0 rfl rfl ?_
  refine z_iload_n (n := 7) hC dX3_ofGun_6 rfl 1 rfl rfl ?_
  refine z_callb (R := { frames := 2, cells := 0, slots := 0, locals := 43 }) (cells := 0) (slots := 0) (ws := wN ma cI (nI 0) n sw st b r T sc fi mi fa K) (n := 10) (As := [.int x]) (rest := []) hC (k_X3_isGun_f l G cI cZ cJ ma (nI 0) n sw st b r T sc fi mi fa K x (by omega) hb) kg_X3_95 kd_yX3_isGun dX3_ofGun_7 ⟨Nat.le_of_ble_eq_true rfl, Nat.le_of_ble_eq_true rfl⟩ 0 rfl rfl rfl [0, 1, 2, 3, 4, 5, 6] rfl (by decide) rfl (Nat.le_of_ble_eq_true rfl) ⟨Nat.le_of_ble_eq_true rfl, Nat.le_of_ble_eq_true rfl⟩ (ws2 := fun u1 => wN ma cI (nI 0) n sw st b r T sc fi mi fa K) [] (fun _ => rfl) ([]) (fun _ => rfl) rfl (fun _ => rfl) [ma 0, ma 1, ma 2, ma 3, ma 4, ma 5, ma 6] (fun _ => rfl) rfl rfl rfl (fun r2 u1 h3 => ?_)
  subst h3
  refine z_if_eq_b (tgt := 24) (n := 13) hC false rfl dX3_ofGun_10 (by decide) rfl (fun c4 => ?_) (fun c4 => absurd c4 (by decide))
  refine z_aload_n (n := 25) hC dX3_ofGun_24 rfl 0 rfl rfl ?_
  refine z_iconst (v := nI 1) (n := 26) hC dX3_ofGun_25 (by decide) rfl ?_
  refine z_calli (R := { frames := 2, cells := 0, slots := 0, locals := 43 }) (cells := 0) (slots := 0) (ws := wN ma cI (nI 0) n sw st b r T sc fi mi fa K) (n := 29) (As := [.int (nI 1)]) (rest := []) hC (k_X3_no l G cI cZ cJ ma (nI 0) n sw st b r T sc fi mi fa K (nI 1) (by omega) (by omega)) kg_X3_92 kd_yX3_no dX3_ofGun_26 ⟨Nat.le_of_ble_eq_true rfl, Nat.le_of_ble_eq_true rfl⟩ 0 rfl rfl rfl [0, 1, 2, 3, 4, 5, 6] rfl (by decide) rfl (Nat.le_of_ble_eq_true rfl) ⟨Nat.le_of_ble_eq_true rfl, Nat.le_of_ble_eq_true rfl⟩ (ws2 := fun u5 => wN ma cI (nI 1) n sw st b r T sc fi mi fa K) [] (fun _ => rfl) ([]) (fun _ => rfl) rfl (fun _ => rfl) [ma 0, ma 1, ma 2, ma 3, ma 4, ma 5, ma 6] (fun _ => rfl) rfl rfl rfl (fun r6 u5 h7 => ?_)
  subst h7
  refine z_iret hC hr hlocks () ?_ rfl dX3_ofGun_29 (by omega) (by omega)
  rfl

set_option maxRecDepth 100000 in
set_option maxHeartbeats 4000000 in
theorem k_X3_fatigueOf (l : Launch) (G : va_G) (cI cZ cJ : ClassId) (ma : Nat → Nat) (th : Int32) (n : Nat) (sw : Nat → Int32) (st : Nat → Int32) (b : Nat → Int32) (r : Nat → Int32) (T : Nat) (sc : Nat → Int32) (fi : Nat → Int32) (mi : Nat → Int32) (fa : Nat → Int32) (K : Nat → Int32) (g : Nat) (hn : n ≤ 6) (hT : T + 200 < 2 ^ 29) (hg : g < n) : MI (Unit) l yX3_fatigueOf cX3_fatigueOf 2 3 65 G (tY cI cZ cJ) [.ref (ma 0), .int (nI g)] (wN ma cI th n sw st b r T sc fi mi fa K) (fun zr _ => zr = fa g) (fun _ => wN ma cI (nI 0) n sw st b r T sc fi mi fa K) 0 0 := by
  refine MI_of (by decide) (Nat.le_of_ble_eq_true rfl) [(0, .ref (ma 0)), (1, .int (nI g))] rfl ?_
  intro p e s m below meth c hC hr hlocks hname
  have hC : Cx p s m _ c cX3_fatigueOf 2 RX3 G (tY cI cZ cJ) _ := hC
  refine z_aload_n (n := 1) hC dX3_fatigueOf_0 rfl 0 rfl rfl ?_
  refine z_iload_n (n := 2) hC dX3_fatigueOf_1 rfl 1 rfl rfl ?_
  refine z_bipush (v := nI 19) (n := 4) hC dX3_fatigueOf_2 (by decide) rfl ?_
  refine z_calli (R := { frames := 3, cells := 0, slots := 0, locals := 65 }) (cells := 0) (slots := 0) (ws := wN ma cI th n sw st b r T sc fi mi fa K) (n := 7) (As := [.int (nI g), .int (nI 19)]) (rest := []) hC (k_X3_ofGun_fa l G cI cZ cJ ma th n sw st b r T sc fi mi fa K g (by omega) (by omega) hg) kg_X3_114 kd_yX3_ofGun dX3_fatigueOf_4 ⟨Nat.le_of_ble_eq_true rfl, Nat.le_of_ble_eq_true rfl⟩ 0 rfl rfl rfl [0, 1, 2, 3, 4, 5, 6] rfl (by decide) rfl (Nat.le_of_ble_eq_true rfl) ⟨Nat.le_of_ble_eq_true rfl, Nat.le_of_ble_eq_true rfl⟩ (ws2 := fun u1 => wN ma cI (nI 0) n sw st b r T sc fi mi fa K) [] (fun _ => rfl) ([]) (fun _ => rfl) rfl (fun _ => rfl) [ma 0, ma 1, ma 2, ma 3, ma 4, ma 5, ma 6] (fun _ => rfl) rfl rfl rfl (fun r2 u1 h3 => ?_)
  subst h3
  refine z_iret hC hr hlocks () ?_ rfl dX3_fatigueOf_7 (by omega) (by omega)
  rfl

set_option maxRecDepth 100000 in
set_option maxHeartbeats 4000000 in
theorem k_X3_fatigueOf_x (l : Launch) (G : va_G) (cI cZ cJ : ClassId) (ma : Nat → Nat) (th : Int32) (n : Nat) (sw : Nat → Int32) (st : Nat → Int32) (b : Nat → Int32) (r : Nat → Int32) (T : Nat) (sc : Nat → Int32) (fi : Nat → Int32) (mi : Nat → Int32) (fa : Nat → Int32) (K : Nat → Int32) (x : Int32) (hn : n ≤ 6) (hT : T + 200 < 2 ^ 29) (hb : x < 0 ∨ nI n ≤ x) : MI (Unit) l yX3_fatigueOf cX3_fatigueOf 2 3 65 G (tY cI cZ cJ) [.ref (ma 0), .int x] (wN ma cI th n sw st b r T sc fi mi fa K) (fun zr _ => zr = nI 0) (fun _ => wN ma cI (nI 1) n sw st b r T sc fi mi fa K) 0 0 := by
  refine MI_of (by decide) (Nat.le_of_ble_eq_true rfl) [(0, .ref (ma 0)), (1, .int x)] rfl ?_
  intro p e s m below meth c hC hr hlocks hname
  have hC : Cx p s m _ c cX3_fatigueOf 2 RX3 G (tY cI cZ cJ) _ := hC
  refine z_aload_n (n := 1) hC dX3_fatigueOf_0 rfl 0 rfl rfl ?_
  refine z_iload_n (n := 2) hC dX3_fatigueOf_1 rfl 1 rfl rfl ?_
  refine z_bipush (v := nI 19) (n := 4) hC dX3_fatigueOf_2 (by decide) rfl ?_
  refine z_calli (R := { frames := 3, cells := 0, slots := 0, locals := 65 }) (cells := 0) (slots := 0) (ws := wN ma cI th n sw st b r T sc fi mi fa K) (n := 7) (As := [.int x, .int (nI 19)]) (rest := []) hC (k_X3_ofGun_fa_x l G cI cZ cJ ma th n sw st b r T sc fi mi fa K x (by omega) (by omega) hb) kg_X3_114 kd_yX3_ofGun dX3_fatigueOf_4 ⟨Nat.le_of_ble_eq_true rfl, Nat.le_of_ble_eq_true rfl⟩ 0 rfl rfl rfl [0, 1, 2, 3, 4, 5, 6] rfl (by decide) rfl (Nat.le_of_ble_eq_true rfl) ⟨Nat.le_of_ble_eq_true rfl, Nat.le_of_ble_eq_true rfl⟩ (ws2 := fun u1 => wN ma cI (nI 1) n sw st b r T sc fi mi fa K) [] (fun _ => rfl) ([]) (fun _ => rfl) rfl (fun _ => rfl) [ma 0, ma 1, ma 2, ma 3, ma 4, ma 5, ma 6] (fun _ => rfl) rfl rfl rfl (fun r2 u1 h3 => ?_)
  subst h3
  refine z_iret hC hr hlocks () ?_ rfl dX3_fatigueOf_7 (by omega) (by omega)
  rfl

set_option maxRecDepth 100000 in
set_option maxHeartbeats 4000000 in
theorem k_X3_turn (l : Launch) (G : va_G) (cI cZ cJ : ClassId) (ma : Nat → Nat) (th : Int32) (n : Nat) (sw : Nat → Int32) (st : Nat → Int32) (b : Nat → Int32) (r : Nat → Int32) (T : Nat) (sc : Nat → Int32) (fi : Nat → Int32) (mi : Nat → Int32) (fa : Nat → Int32) (K : Nat → Int32) (hn : n ≤ 6) (hT : T + 200 < 2 ^ 29) : MI (Unit) l yX3_turn cX3_turn 1 1 21 G (tY cI cZ cJ) [.ref (ma 0)] (wN ma cI th n sw st b r T sc fi mi fa K) (fun zr _ => zr = nI T) (fun _ => wN ma cI (nI 0) n sw st b r T sc fi mi fa K) 0 0 := by
  refine MI_of (by decide) (Nat.le_of_ble_eq_true rfl) [(0, .ref (ma 0))] rfl ?_
  intro p e s m below meth c hC hr hlocks hname
  have hC : Cx p s m _ c cX3_turn 1 RX3 G (tY cI cZ cJ) _ := hC
  refine z_aload_n (n := 1) hC dX3_turn_0 rfl 0 rfl rfl ?_
  refine z_aload_n (n := 2) hC dX3_turn_1 rfl 0 rfl rfl ?_
  refine gf_X3_22 (v := .ref (ma 5)) (n := 5) hC 0 rfl rfl dX3_turn_2 rfl ?_
  refine z_iconst (v := nI 0) (n := 6) hC dX3_turn_5 (by decide) rfl ?_
  refine z_iald (v := nI T) (n := 7) hC 5 0 0 rfl rfl rfl (by omega) (by decide) dX3_turn_6 rfl rfl ?_
  refine z_calli (R := { frames := 1, cells := 0, slots := 0, locals := 21 }) (cells := 0) (slots := 0) (ws := wN ma cI th n sw st b r T sc fi mi fa K) (n := 10) (As := [.int (nI T)]) (rest := []) hC (k_X3_ok l G cI cZ cJ ma th n sw st b r T sc fi mi fa K (nI T) (by omega) (by omega)) kg_X3_108 kd_yX3_ok dX3_turn_7 ⟨Nat.le_of_ble_eq_true rfl, Nat.le_of_ble_eq_true rfl⟩ 0 rfl rfl rfl [0, 1, 2, 3, 4, 5, 6] rfl (by decide) rfl (Nat.le_of_ble_eq_true rfl) ⟨Nat.le_of_ble_eq_true rfl, Nat.le_of_ble_eq_true rfl⟩ (ws2 := fun u1 => wN ma cI (nI 0) n sw st b r T sc fi mi fa K) [] (fun _ => rfl) ([]) (fun _ => rfl) rfl (fun _ => rfl) [ma 0, ma 1, ma 2, ma 3, ma 4, ma 5, ma 6] (fun _ => rfl) rfl rfl rfl (fun r2 u1 h3 => ?_)
  subst h3
  refine z_iret hC hr hlocks () ?_ rfl dX3_turn_10 (by omega) (by omega)
  rfl

set_option maxRecDepth 100000 in
set_option maxHeartbeats 4000000 in
theorem k_X3_guns (l : Launch) (G : va_G) (cI cZ cJ : ClassId) (ma : Nat → Nat) (th : Int32) (n : Nat) (sw : Nat → Int32) (st : Nat → Int32) (b : Nat → Int32) (r : Nat → Int32) (T : Nat) (sc : Nat → Int32) (fi : Nat → Int32) (mi : Nat → Int32) (fa : Nat → Int32) (K : Nat → Int32) (hn : n ≤ 6) (hT : T + 200 < 2 ^ 29) : MI (Unit) l yX3_guns cX3_guns 1 1 21 G (tY cI cZ cJ) [.ref (ma 0)] (wN ma cI th n sw st b r T sc fi mi fa K) (fun zr _ => zr = nI n) (fun _ => wN ma cI (nI 0) n sw st b r T sc fi mi fa K) 0 0 := by
  refine MI_of (by decide) (Nat.le_of_ble_eq_true rfl) [(0, .ref (ma 0))] rfl ?_
  intro p e s m below meth c hC hr hlocks hname
  have hC : Cx p s m _ c cX3_guns 1 RX3 G (tY cI cZ cJ) _ := hC
  refine z_aload_n (n := 1) hC dX3_guns_0 rfl 0 rfl rfl ?_
  refine z_aload_n (n := 2) hC dX3_guns_1 rfl 0 rfl rfl ?_
  refine gf_X3_32 (v := .int (nI n)) (n := 5) hC 0 rfl rfl dX3_guns_2 rfl ?_
  refine z_calli (R := { frames := 1, cells := 0, slots := 0, locals := 21 }) (cells := 0) (slots := 0) (ws := wN ma cI th n sw st b r T sc fi mi fa K) (n := 8) (As := [.int (nI n)]) (rest := []) hC (k_X3_ok l G cI cZ cJ ma th n sw st b r T sc fi mi fa K (nI n) (by omega) (by omega)) kg_X3_108 kd_yX3_ok dX3_guns_5 ⟨Nat.le_of_ble_eq_true rfl, Nat.le_of_ble_eq_true rfl⟩ 0 rfl rfl rfl [0, 1, 2, 3, 4, 5, 6] rfl (by decide) rfl (Nat.le_of_ble_eq_true rfl) ⟨Nat.le_of_ble_eq_true rfl, Nat.le_of_ble_eq_true rfl⟩ (ws2 := fun u1 => wN ma cI (nI 0) n sw st b r T sc fi mi fa K) [] (fun _ => rfl) ([]) (fun _ => rfl) rfl (fun _ => rfl) [ma 0, ma 1, ma 2, ma 3, ma 4, ma 5, ma 6] (fun _ => rfl) rfl rfl rfl (fun r2 u1 h3 => ?_)
  subst h3
  refine z_iret hC hr hlocks () ?_ rfl dX3_guns_8 (by omega) (by omega)
  rfl

set_option maxRecDepth 100000 in
set_option maxHeartbeats 4000000 in
theorem k_X3_leader (l : Launch) (G : va_G) (cI cZ cJ : ClassId) (ma : Nat → Nat) (th : Int32) (n : Nat) (sw : Nat → Int32) (st : Nat → Int32) (b : Nat → Int32) (r : Nat → Int32) (T : Nat) (sc : Nat → Int32) (fi : Nat → Int32) (mi : Nat → Int32) (fa : Nat → Int32) (K : Nat → Int32) (hn : n ≤ 6) (hT : T + 200 < 2 ^ 29) : MI (Unit) l yX3_leader cX3_leader 1 1 22 G (tY cI cZ cJ) [.ref (ma 0)] (wN ma cI th n sw st b r T sc fi mi fa K) (fun zr _ => zr = ldF sc n) (fun _ => wN ma cI (nI 0) n sw st b r T sc fi mi fa K) 0 0 := by
  refine MI_of (by decide) (Nat.le_of_ble_eq_true rfl) [(0, .ref (ma 0))] rfl ?_
  intro p e s m below meth c hC hr hlocks hname
  have hC : Cx p s m _ c cX3_leader 1 RX3 G (tY cI cZ cJ) _ := hC
  refine z_aload_n (n := 1) hC dX3_leader_0 rfl 0 rfl rfl ?_
  refine z_aload_n (n := 2) hC dX3_leader_1 rfl 0 rfl rfl ?_
  refine z_calli (R := { frames := 1, cells := 0, slots := 0, locals := 22 }) (cells := 0) (slots := 0) (ws := wN ma cI th n sw st b r T sc fi mi fa K) (n := 5) (As := []) (rest := [.ref (ma 0)]) hC (k_X3_first l G cI cZ cJ ma th n sw st b r T sc fi mi fa K (by omega) (by omega)) kg_X3_78 kd_yX3_first dX3_leader_2 ⟨Nat.le_of_ble_eq_true rfl, Nat.le_of_ble_eq_true rfl⟩ 0 rfl rfl rfl [0, 1, 2, 3, 4, 5, 6] rfl (by decide) rfl (Nat.le_of_ble_eq_true rfl) ⟨Nat.le_of_ble_eq_true rfl, Nat.le_of_ble_eq_true rfl⟩ (ws2 := fun u1 => wN ma cI th n sw st b r T sc fi mi fa K) [] (fun _ => rfl) ([]) (fun _ => rfl) rfl (fun _ => rfl) [ma 0, ma 1, ma 2, ma 3, ma 4, ma 5, ma 6] (fun _ => rfl) rfl rfl rfl (fun r2 u1 h3 => ?_)
  subst h3
  refine z_calli (R := { frames := 1, cells := 0, slots := 0, locals := 22 }) (cells := 0) (slots := 0) (ws := wN ma cI th n sw st b r T sc fi mi fa K) (n := 8) (As := [.int (ldF sc n)]) (rest := []) hC (k_X3_ok l G cI cZ cJ ma th n sw st b r T sc fi mi fa K (ldF sc n) (by omega) (by omega)) kg_X3_108 kd_yX3_ok dX3_leader_5 ⟨Nat.le_of_ble_eq_true rfl, Nat.le_of_ble_eq_true rfl⟩ 0 rfl rfl rfl [0, 1, 2, 3, 4, 5, 6] rfl (by decide) rfl (Nat.le_of_ble_eq_true rfl) ⟨Nat.le_of_ble_eq_true rfl, Nat.le_of_ble_eq_true rfl⟩ (ws2 := fun u4 => wN ma cI (nI 0) n sw st b r T sc fi mi fa K) [] (fun _ => rfl) ([]) (fun _ => rfl) rfl (fun _ => rfl) [ma 0, ma 1, ma 2, ma 3, ma 4, ma 5, ma 6] (fun _ => rfl) rfl rfl rfl (fun r5 u4 h6 => ?_)
  subst h6
  refine z_iret hC hr hlocks () ?_ rfl dX3_leader_8 (by omega) (by omega)
  rfl

set_option maxRecDepth 100000 in
set_option maxHeartbeats 4000000 in
theorem k_X3_tied (l : Launch) (G : va_G) (cI cZ cJ : ClassId) (ma : Nat → Nat) (th : Int32) (n : Nat) (sw : Nat → Int32) (st : Nat → Int32) (b : Nat → Int32) (r : Nat → Int32) (T : Nat) (sc : Nat → Int32) (fi : Nat → Int32) (mi : Nat → Int32) (fa : Nat → Int32) (K : Nat → Int32) (hn : n ≤ 6) (hT : T + 200 < 2 ^ 29) : MI (Unit) l yX3_tied cX3_tied 1 2 44 G (tY cI cZ cJ) [.ref (ma 0)] (wN ma cI th n sw st b r T sc fi mi fa K) (fun zr _ => zr = nI (ctF (fun zj => decide (sc zj = sc (leF sc (n - 1)))) n)) (fun _ => wN ma cI (nI 0) n sw st b r T sc fi mi fa K) 0 0 := by
  refine MI_of (by decide) (Nat.le_of_ble_eq_true rfl) [(0, .ref (ma 0))] rfl ?_
  intro p e s m below meth c hC hr hlocks hname
  have hC : Cx p s m _ c cX3_tied 1 RX3 G (tY cI cZ cJ) _ := hC
  refine z_aload_n (n := 1) hC dX3_tied_0 rfl 0 rfl rfl ?_
  refine z_aload_n (n := 2) hC dX3_tied_1 rfl 0 rfl rfl ?_
  refine z_calli (R := { frames := 2, cells := 0, slots := 0, locals := 44 }) (cells := 0) (slots := 0) (ws := wN ma cI th n sw st b r T sc fi mi fa K) (n := 5) (As := []) (rest := [.ref (ma 0)]) hC (k_X3_best l G cI cZ cJ ma th n sw st b r T sc fi mi fa K (by omega) (by omega)) kg_X3_81 kd_yX3_best dX3_tied_2 ⟨Nat.le_of_ble_eq_true rfl, Nat.le_of_ble_eq_true rfl⟩ 0 rfl rfl rfl [0, 1, 2, 3, 4, 5, 6] rfl (by decide) rfl (Nat.le_of_ble_eq_true rfl) ⟨Nat.le_of_ble_eq_true rfl, Nat.le_of_ble_eq_true rfl⟩ (ws2 := fun u1 => wN ma cI th n sw st b r T sc fi mi fa K) [] (fun _ => rfl) ([]) (fun _ => rfl) rfl (fun _ => rfl) [ma 0, ma 1, ma 2, ma 3, ma 4, ma 5, ma 6] (fun _ => rfl) rfl rfl rfl (fun r2 u1 h3 => ?_)
  subst h3
  refine z_callsi (R := { frames := 2, cells := 0, slots := 0, locals := 44 }) (cells := 0) (slots := 0) (ws := wN ma cI th n sw st b r T sc fi mi fa K) (n := 8) (As := [.int (nI (mkF (beB sc n) n))]) (rest := [.ref (ma 0)]) hC (k_J6_bitCount_0f7a4 l G cI cZ cJ (beB sc n) n (by omega)) kg_X3_84 kd_yJ6_bitCount_0f7a4 dX3_tied_5 ⟨Nat.le_of_ble_eq_true rfl, Nat.le_of_ble_eq_true rfl⟩ [] rfl (by decide) rfl (Nat.le_of_ble_eq_true rfl) ⟨Nat.le_of_ble_eq_true rfl, Nat.le_of_ble_eq_true rfl⟩ (ws2 := fun u4 => wN ma cI th n sw st b r T sc fi mi fa K) [0, 1, 2, 3, 4, 5, 6] (fun _ => rfl) (wN ma cI th n sw st b r T sc fi mi fa K) (fun _ => rfl) rfl (fun _ => rfl) [] (fun _ => rfl) rfl rfl rfl (fun r5 u4 h6 => ?_)
  subst h6
  refine z_calli (R := { frames := 2, cells := 0, slots := 0, locals := 44 }) (cells := 0) (slots := 0) (ws := wN ma cI th n sw st b r T sc fi mi fa K) (n := 11) (As := [.int (nI (ctF (beB sc n) n))]) (rest := []) hC (k_X3_ok l G cI cZ cJ ma th n sw st b r T sc fi mi fa K (nI (ctF (beB sc n) n)) (by omega) (by omega)) kg_X3_108 kd_yX3_ok dX3_tied_8 ⟨Nat.le_of_ble_eq_true rfl, Nat.le_of_ble_eq_true rfl⟩ 0 rfl rfl rfl [0, 1, 2, 3, 4, 5, 6] rfl (by decide) rfl (Nat.le_of_ble_eq_true rfl) ⟨Nat.le_of_ble_eq_true rfl, Nat.le_of_ble_eq_true rfl⟩ (ws2 := fun u7 => wN ma cI (nI 0) n sw st b r T sc fi mi fa K) [] (fun _ => rfl) ([]) (fun _ => rfl) rfl (fun _ => rfl) [ma 0, ma 1, ma 2, ma 3, ma 4, ma 5, ma 6] (fun _ => rfl) rfl rfl rfl (fun r8 u7 h9 => ?_)
  subst h9
  refine z_iret hC hr hlocks () ?_ rfl dX3_tied_11 (by omega) (by omega)
  rfl

set_option maxRecDepth 100000 in
set_option maxHeartbeats 4000000 in
theorem k_X3_addGun (l : Launch) (G : va_G) (cI cZ cJ : ClassId) (ma : Nat → Nat) (th : Int32) (n : Nat) (sw : Nat → Int32) (st : Nat → Int32) (b : Nat → Int32) (r : Nat → Int32) (T : Nat) (sc : Nat → Int32) (fi : Nat → Int32) (mi : Nat → Int32) (fa : Nat → Int32) (K : Nat → Int32) (x : Int32) (y : Int32) (hn : n ≤ 6) (hT : T + 200 < 2 ^ 29) (hn6 : n < 6) (hx1 : ¬ x < nI 5) (hx2 : x ≤ nI 60) (hy1 : ¬ y < nI 1) (hy2 : y ≤ nI 9) : MI (Unit) l yX3_addGun cX3_addGun 3 1 22 G (tY cI cZ cJ) [.ref (ma 0), .int x, .int y] (wN ma cI th n sw st b r T sc fi mi fa K) (fun zr _ => zr = nI n) (fun _ => wN ma cI (nI 0) (n + 1) (upd sw n x) (upd st n y) b r T sc fi mi fa K) 0 0 := by
  refine MI_of (by decide) (Nat.le_of_ble_eq_true rfl) [(0, .ref (ma 0)), (1, .int x), (2, .int y)] rfl ?_
  intro p e s m below meth c hC hr hlocks hname
  have hC : Cx p s m _ c cX3_addGun 3 RX3 G (tY cI cZ cJ) _ := hC
  refine z_aload_n (n := 1) hC dX3_addGun_0 rfl 0 rfl rfl ?_
  refine z_iconst (v := nI 0) (n := 2) hC dX3_addGun_1 (by decide) rfl ?_
  refine pf_X3_28 (ws' := wN ma cI (nI 0) n sw st b r T sc fi mi fa K) (n := 5) hC 0 rfl (Nat.le_of_ble_eq_true rfl) dX3_addGun_2 rfl rfl ?_
  refine z_iload_n (n := 6) hC dX3_addGun_5 rfl 1 rfl rfl ?_
  refine z_iconst (v := nI 5) (n := 7) hC dX3_addGun_6 (by decide) rfl ?_
  refine z_bipush (v := nI 60) (n := 9) hC dX3_addGun_7 (by decide) rfl ?_
  refine z_callsb (R := { frames := 1, cells := 0, slots := 0, locals := 22 }) (cells := 0) (slots := 0) (ws := wN ma cI (nI 0) n sw st b r T sc fi mi fa K) (n := 12) (As := [.int x, .int (nI 5), .int (nI 60)]) (rest := []) hC (k_X3_isFrom_t l G cI cZ cJ x (nI 5) (nI 60) hx1 (Int32.not_lt.mpr hx2)) kg_X3_35 kd_yX3_isFrom dX3_addGun_9 ⟨Nat.le_of_ble_eq_true rfl, Nat.le_of_ble_eq_true rfl⟩ [] rfl (by decide) rfl (Nat.le_of_ble_eq_true rfl) ⟨Nat.le_of_ble_eq_true rfl, Nat.le_of_ble_eq_true rfl⟩ (ws2 := fun u1 => wN ma cI (nI 0) n sw st b r T sc fi mi fa K) [0, 1, 2, 3, 4, 5, 6] (fun _ => rfl) (wN ma cI (nI 0) n sw st b r T sc fi mi fa K) (fun _ => rfl) rfl (fun _ => rfl) [] (fun _ => rfl) rfl rfl rfl (fun r2 u1 h3 => ?_)
  subst h3
  refine z_if_eq_b (tgt := 25) (n := 15) hC true rfl dX3_addGun_12 (by decide) rfl (fun c4 => absurd c4 (by decide)) (fun c4 => ?_)
  refine z_iload_n (n := 16) hC dX3_addGun_15 rfl 2 rfl rfl ?_
  refine z_iconst (v := nI 1) (n := 17) hC dX3_addGun_16 (by decide) rfl ?_
  refine z_bipush (v := nI 9) (n := 19) hC dX3_addGun_17 (by decide) rfl ?_
  refine z_callsb (R := { frames := 1, cells := 0, slots := 0, locals := 22 }) (cells := 0) (slots := 0) (ws := wN ma cI (nI 0) n sw st b r T sc fi mi fa K) (n := 22) (As := [.int y, .int (nI 1), .int (nI 9)]) (rest := []) hC (k_X3_isFrom_t l G cI cZ cJ y (nI 1) (nI 9) hy1 (Int32.not_lt.mpr hy2)) kg_X3_35 kd_yX3_isFrom dX3_addGun_19 ⟨Nat.le_of_ble_eq_true rfl, Nat.le_of_ble_eq_true rfl⟩ [] rfl (by decide) rfl (Nat.le_of_ble_eq_true rfl) ⟨Nat.le_of_ble_eq_true rfl, Nat.le_of_ble_eq_true rfl⟩ (ws2 := fun u5 => wN ma cI (nI 0) n sw st b r T sc fi mi fa K) [0, 1, 2, 3, 4, 5, 6] (fun _ => rfl) (wN ma cI (nI 0) n sw st b r T sc fi mi fa K) (fun _ => rfl) rfl (fun _ => rfl) [] (fun _ => rfl) rfl rfl rfl (fun r6 u5 h7 => ?_)
  subst h7
  refine z_if_ne_b (tgt := 31) (n := 25) hC true rfl dX3_addGun_22 (by decide) rfl (fun c8 => ?_) (fun c8 => absurd c8 (by decide))
  refine z_aload_n (n := 32) hC dX3_addGun_31 rfl 0 rfl rfl ?_
  refine gf_X3_32 (v := .int (nI n)) (n := 35) hC 0 rfl rfl dX3_addGun_32 rfl ?_
  refine z_bipush (v := nI 6) (n := 37) hC dX3_addGun_35 (by decide) rfl ?_
  refine z_icmp_ne_n (tgt := 46) (n := 40) hC n 6 rfl rfl (by omega) (by omega) dX3_addGun_37 (by decide) rfl (fun c9 => ?_) (fun c9 => absurd c9 (by omega))
  refine z_aload_n (n := 47) hC dX3_addGun_46 rfl 0 rfl rfl ?_
  refine gf_X3_9 (v := .ref (ma 1)) (n := 50) hC 0 rfl rfl dX3_addGun_47 rfl ?_
  refine z_aload_n (n := 51) hC dX3_addGun_50 rfl 0 rfl rfl ?_
  refine gf_X3_32 (v := .int (nI n)) (n := 54) hC 0 rfl rfl dX3_addGun_51 rfl ?_
  refine z_iload_n (n := 55) hC dX3_addGun_54 rfl 1 rfl rfl ?_
  refine z_iast (ws' := wN ma cI (nI 0) n (upd sw n x) st b r T sc fi mi fa K) (n := 56) hC 1 0 n rfl rfl rfl (by omega) (by decide) dX3_addGun_55 rfl rfl rfl ?_
  refine z_aload_n (n := 57) hC dX3_addGun_56 rfl 0 rfl rfl ?_
  refine gf_X3_13 (v := .ref (ma 2)) (n := 60) hC 0 rfl rfl dX3_addGun_57 rfl ?_
  refine z_aload_n (n := 61) hC dX3_addGun_60 rfl 0 rfl rfl ?_
  refine gf_X3_32 (v := .int (nI n)) (n := 64) hC 0 rfl rfl dX3_addGun_61 rfl ?_
  refine z_iload_n (n := 65) hC dX3_addGun_64 rfl 2 rfl rfl ?_
  refine z_iast (ws' := wN ma cI (nI 0) n (upd sw n x) (upd st n y) b r T sc fi mi fa K) (n := 66) hC 2 0 n rfl rfl rfl (by omega) (by decide) dX3_addGun_65 rfl rfl rfl ?_
  refine z_aload_n (n := 67) hC dX3_addGun_66 rfl 0 rfl rfl ?_
  refine z_dup (n := 68) hC dX3_addGun_67 rfl rfl ?_
  refine gf_X3_32 (v := .int (nI n)) (n := 71) hC 0 rfl rfl dX3_addGun_68 rfl ?_
  refine z_iconst (v := nI 1) (n := 72) hC dX3_addGun_71 (by decide) rfl ?_
  refine z_iadd (v := nI (n + 1)) (n := 73) hC dX3_addGun_72 (nI_add n 1) rfl ?_
  refine pf_X3_32 (ws' := wN ma cI (nI 0) (n + 1) (upd sw n x) (upd st n y) b r T sc fi mi fa K) (n := 76) hC 0 rfl (Nat.le_of_ble_eq_true rfl) dX3_addGun_73 rfl rfl ?_
  refine z_aload_n (n := 77) hC dX3_addGun_76 rfl 0 rfl rfl ?_
  refine gf_X3_32 (v := .int (nI (n + 1))) (n := 80) hC 0 rfl rfl dX3_addGun_77 rfl ?_
  refine z_iconst (v := nI 1) (n := 81) hC dX3_addGun_80 (by decide) rfl ?_
  refine z_isub (v := nI n) (n := 82) hC dX3_addGun_81 (pk_sub (a := n + 1) (b := 1) (by omega)) rfl ?_
  refine z_iret hC hr hlocks () ?_ rfl dX3_addGun_82 (by omega) (by omega)
  rfl

set_option maxRecDepth 100000 in
set_option maxHeartbeats 4000000 in
theorem k_X3_addGun_xa (l : Launch) (G : va_G) (cI cZ cJ : ClassId) (ma : Nat → Nat) (th : Int32) (n : Nat) (sw : Nat → Int32) (st : Nat → Int32) (b : Nat → Int32) (r : Nat → Int32) (T : Nat) (sc : Nat → Int32) (fi : Nat → Int32) (mi : Nat → Int32) (fa : Nat → Int32) (K : Nat → Int32) (x : Int32) (y : Int32) (hn : n ≤ 6) (hT : T + 200 < 2 ^ 29) (hb : x < nI 5 ∨ nI 60 < x) : MI (Unit) l yX3_addGun cX3_addGun 3 1 22 G (tY cI cZ cJ) [.ref (ma 0), .int x, .int y] (wN ma cI th n sw st b r T sc fi mi fa K) (fun zr _ => zr = nI 0) (fun _ => wN ma cI (nI 1) n sw st b r T sc fi mi fa K) 0 0 := by
  refine MI_of (by decide) (Nat.le_of_ble_eq_true rfl) [(0, .ref (ma 0)), (1, .int x), (2, .int y)] rfl ?_
  intro p e s m below meth c hC hr hlocks hname
  have hC : Cx p s m _ c cX3_addGun 3 RX3 G (tY cI cZ cJ) _ := hC
  refine z_aload_n (n := 1) hC dX3_addGun_0 rfl 0 rfl rfl ?_
  refine z_iconst (v := nI 0) (n := 2) hC dX3_addGun_1 (by decide) rfl ?_
  refine pf_X3_28 (ws' := wN ma cI (nI 0) n sw st b r T sc fi mi fa K) (n := 5) hC 0 rfl (Nat.le_of_ble_eq_true rfl) dX3_addGun_2 rfl rfl ?_
  refine z_iload_n (n := 6) hC dX3_addGun_5 rfl 1 rfl rfl ?_
  refine z_iconst (v := nI 5) (n := 7) hC dX3_addGun_6 (by decide) rfl ?_
  refine z_bipush (v := nI 60) (n := 9) hC dX3_addGun_7 (by decide) rfl ?_
  refine z_callsb (R := { frames := 1, cells := 0, slots := 0, locals := 22 }) (cells := 0) (slots := 0) (ws := wN ma cI (nI 0) n sw st b r T sc fi mi fa K) (n := 12) (As := [.int x, .int (nI 5), .int (nI 60)]) (rest := []) hC (k_X3_isFrom_f l G cI cZ cJ x (nI 5) (nI 60) hb) kg_X3_35 kd_yX3_isFrom dX3_addGun_9 ⟨Nat.le_of_ble_eq_true rfl, Nat.le_of_ble_eq_true rfl⟩ [] rfl (by decide) rfl (Nat.le_of_ble_eq_true rfl) ⟨Nat.le_of_ble_eq_true rfl, Nat.le_of_ble_eq_true rfl⟩ (ws2 := fun u1 => wN ma cI (nI 0) n sw st b r T sc fi mi fa K) [0, 1, 2, 3, 4, 5, 6] (fun _ => rfl) (wN ma cI (nI 0) n sw st b r T sc fi mi fa K) (fun _ => rfl) rfl (fun _ => rfl) [] (fun _ => rfl) rfl rfl rfl (fun r2 u1 h3 => ?_)
  subst h3
  refine z_if_eq_b (tgt := 25) (n := 15) hC false rfl dX3_addGun_12 (by decide) rfl (fun c4 => ?_) (fun c4 => absurd c4 (by decide))
  refine z_aload_n (n := 26) hC dX3_addGun_25 rfl 0 rfl rfl ?_
  refine z_iconst (v := nI 1) (n := 27) hC dX3_addGun_26 (by decide) rfl ?_
  refine z_calli (R := { frames := 1, cells := 0, slots := 0, locals := 22 }) (cells := 0) (slots := 0) (ws := wN ma cI (nI 0) n sw st b r T sc fi mi fa K) (n := 30) (As := [.int (nI 1)]) (rest := []) hC (k_X3_no l G cI cZ cJ ma (nI 0) n sw st b r T sc fi mi fa K (nI 1) (by omega) (by omega)) kg_X3_92 kd_yX3_no dX3_addGun_27 ⟨Nat.le_of_ble_eq_true rfl, Nat.le_of_ble_eq_true rfl⟩ 0 rfl rfl rfl [0, 1, 2, 3, 4, 5, 6] rfl (by decide) rfl (Nat.le_of_ble_eq_true rfl) ⟨Nat.le_of_ble_eq_true rfl, Nat.le_of_ble_eq_true rfl⟩ (ws2 := fun u5 => wN ma cI (nI 1) n sw st b r T sc fi mi fa K) [] (fun _ => rfl) ([]) (fun _ => rfl) rfl (fun _ => rfl) [ma 0, ma 1, ma 2, ma 3, ma 4, ma 5, ma 6] (fun _ => rfl) rfl rfl rfl (fun r6 u5 h7 => ?_)
  subst h7
  refine z_iret hC hr hlocks () ?_ rfl dX3_addGun_30 (by omega) (by omega)
  rfl

set_option maxRecDepth 100000 in
set_option maxHeartbeats 4000000 in
theorem k_X3_addGun_xb (l : Launch) (G : va_G) (cI cZ cJ : ClassId) (ma : Nat → Nat) (th : Int32) (n : Nat) (sw : Nat → Int32) (st : Nat → Int32) (b : Nat → Int32) (r : Nat → Int32) (T : Nat) (sc : Nat → Int32) (fi : Nat → Int32) (mi : Nat → Int32) (fa : Nat → Int32) (K : Nat → Int32) (x : Int32) (y : Int32) (hn : n ≤ 6) (hT : T + 200 < 2 ^ 29) (hx1 : ¬ x < nI 5) (hx2 : x ≤ nI 60) (hb : y < nI 1 ∨ nI 9 < y) : MI (Unit) l yX3_addGun cX3_addGun 3 1 22 G (tY cI cZ cJ) [.ref (ma 0), .int x, .int y] (wN ma cI th n sw st b r T sc fi mi fa K) (fun zr _ => zr = nI 0) (fun _ => wN ma cI (nI 1) n sw st b r T sc fi mi fa K) 0 0 := by
  refine MI_of (by decide) (Nat.le_of_ble_eq_true rfl) [(0, .ref (ma 0)), (1, .int x), (2, .int y)] rfl ?_
  intro p e s m below meth c hC hr hlocks hname
  have hC : Cx p s m _ c cX3_addGun 3 RX3 G (tY cI cZ cJ) _ := hC
  refine z_aload_n (n := 1) hC dX3_addGun_0 rfl 0 rfl rfl ?_
  refine z_iconst (v := nI 0) (n := 2) hC dX3_addGun_1 (by decide) rfl ?_
  refine pf_X3_28 (ws' := wN ma cI (nI 0) n sw st b r T sc fi mi fa K) (n := 5) hC 0 rfl (Nat.le_of_ble_eq_true rfl) dX3_addGun_2 rfl rfl ?_
  refine z_iload_n (n := 6) hC dX3_addGun_5 rfl 1 rfl rfl ?_
  refine z_iconst (v := nI 5) (n := 7) hC dX3_addGun_6 (by decide) rfl ?_
  refine z_bipush (v := nI 60) (n := 9) hC dX3_addGun_7 (by decide) rfl ?_
  refine z_callsb (R := { frames := 1, cells := 0, slots := 0, locals := 22 }) (cells := 0) (slots := 0) (ws := wN ma cI (nI 0) n sw st b r T sc fi mi fa K) (n := 12) (As := [.int x, .int (nI 5), .int (nI 60)]) (rest := []) hC (k_X3_isFrom_t l G cI cZ cJ x (nI 5) (nI 60) hx1 (Int32.not_lt.mpr hx2)) kg_X3_35 kd_yX3_isFrom dX3_addGun_9 ⟨Nat.le_of_ble_eq_true rfl, Nat.le_of_ble_eq_true rfl⟩ [] rfl (by decide) rfl (Nat.le_of_ble_eq_true rfl) ⟨Nat.le_of_ble_eq_true rfl, Nat.le_of_ble_eq_true rfl⟩ (ws2 := fun u1 => wN ma cI (nI 0) n sw st b r T sc fi mi fa K) [0, 1, 2, 3, 4, 5, 6] (fun _ => rfl) (wN ma cI (nI 0) n sw st b r T sc fi mi fa K) (fun _ => rfl) rfl (fun _ => rfl) [] (fun _ => rfl) rfl rfl rfl (fun r2 u1 h3 => ?_)
  subst h3
  refine z_if_eq_b (tgt := 25) (n := 15) hC true rfl dX3_addGun_12 (by decide) rfl (fun c4 => absurd c4 (by decide)) (fun c4 => ?_)
  refine z_iload_n (n := 16) hC dX3_addGun_15 rfl 2 rfl rfl ?_
  refine z_iconst (v := nI 1) (n := 17) hC dX3_addGun_16 (by decide) rfl ?_
  refine z_bipush (v := nI 9) (n := 19) hC dX3_addGun_17 (by decide) rfl ?_
  refine z_callsb (R := { frames := 1, cells := 0, slots := 0, locals := 22 }) (cells := 0) (slots := 0) (ws := wN ma cI (nI 0) n sw st b r T sc fi mi fa K) (n := 22) (As := [.int y, .int (nI 1), .int (nI 9)]) (rest := []) hC (k_X3_isFrom_f l G cI cZ cJ y (nI 1) (nI 9) hb) kg_X3_35 kd_yX3_isFrom dX3_addGun_19 ⟨Nat.le_of_ble_eq_true rfl, Nat.le_of_ble_eq_true rfl⟩ [] rfl (by decide) rfl (Nat.le_of_ble_eq_true rfl) ⟨Nat.le_of_ble_eq_true rfl, Nat.le_of_ble_eq_true rfl⟩ (ws2 := fun u5 => wN ma cI (nI 0) n sw st b r T sc fi mi fa K) [0, 1, 2, 3, 4, 5, 6] (fun _ => rfl) (wN ma cI (nI 0) n sw st b r T sc fi mi fa K) (fun _ => rfl) rfl (fun _ => rfl) [] (fun _ => rfl) rfl rfl rfl (fun r6 u5 h7 => ?_)
  subst h7
  refine z_if_ne_b (tgt := 31) (n := 25) hC false rfl dX3_addGun_22 (by decide) rfl (fun c8 => absurd c8 (by decide)) (fun c8 => ?_)
  refine z_aload_n (n := 26) hC dX3_addGun_25 rfl 0 rfl rfl ?_
  refine z_iconst (v := nI 1) (n := 27) hC dX3_addGun_26 (by decide) rfl ?_
  refine z_calli (R := { frames := 1, cells := 0, slots := 0, locals := 22 }) (cells := 0) (slots := 0) (ws := wN ma cI (nI 0) n sw st b r T sc fi mi fa K) (n := 30) (As := [.int (nI 1)]) (rest := []) hC (k_X3_no l G cI cZ cJ ma (nI 0) n sw st b r T sc fi mi fa K (nI 1) (by omega) (by omega)) kg_X3_92 kd_yX3_no dX3_addGun_27 ⟨Nat.le_of_ble_eq_true rfl, Nat.le_of_ble_eq_true rfl⟩ 0 rfl rfl rfl [0, 1, 2, 3, 4, 5, 6] rfl (by decide) rfl (Nat.le_of_ble_eq_true rfl) ⟨Nat.le_of_ble_eq_true rfl, Nat.le_of_ble_eq_true rfl⟩ (ws2 := fun u9 => wN ma cI (nI 1) n sw st b r T sc fi mi fa K) [] (fun _ => rfl) ([]) (fun _ => rfl) rfl (fun _ => rfl) [ma 0, ma 1, ma 2, ma 3, ma 4, ma 5, ma 6] (fun _ => rfl) rfl rfl rfl (fun r10 u9 h11 => ?_)
  subst h11
  refine z_iret hC hr hlocks () ?_ rfl dX3_addGun_30 (by omega) (by omega)
  rfl

set_option maxRecDepth 100000 in
set_option maxHeartbeats 4000000 in
theorem k_X3_addGun_xc (l : Launch) (G : va_G) (cI cZ cJ : ClassId) (ma : Nat → Nat) (th : Int32) (n : Nat) (sw : Nat → Int32) (st : Nat → Int32) (b : Nat → Int32) (r : Nat → Int32) (T : Nat) (sc : Nat → Int32) (fi : Nat → Int32) (mi : Nat → Int32) (fa : Nat → Int32) (K : Nat → Int32) (x : Int32) (y : Int32) (hn : n ≤ 6) (hT : T + 200 < 2 ^ 29) (hn6 : n = 6) (hx1 : ¬ x < nI 5) (hx2 : x ≤ nI 60) (hy1 : ¬ y < nI 1) (hy2 : y ≤ nI 9) : MI (Unit) l yX3_addGun cX3_addGun 3 1 22 G (tY cI cZ cJ) [.ref (ma 0), .int x, .int y] (wN ma cI th n sw st b r T sc fi mi fa K) (fun zr _ => zr = nI 0) (fun _ => wN ma cI (nI 2) n sw st b r T sc fi mi fa K) 0 0 := by
  refine MI_of (by decide) (Nat.le_of_ble_eq_true rfl) [(0, .ref (ma 0)), (1, .int x), (2, .int y)] rfl ?_
  intro p e s m below meth c hC hr hlocks hname
  have hC : Cx p s m _ c cX3_addGun 3 RX3 G (tY cI cZ cJ) _ := hC
  refine z_aload_n (n := 1) hC dX3_addGun_0 rfl 0 rfl rfl ?_
  refine z_iconst (v := nI 0) (n := 2) hC dX3_addGun_1 (by decide) rfl ?_
  refine pf_X3_28 (ws' := wN ma cI (nI 0) n sw st b r T sc fi mi fa K) (n := 5) hC 0 rfl (Nat.le_of_ble_eq_true rfl) dX3_addGun_2 rfl rfl ?_
  refine z_iload_n (n := 6) hC dX3_addGun_5 rfl 1 rfl rfl ?_
  refine z_iconst (v := nI 5) (n := 7) hC dX3_addGun_6 (by decide) rfl ?_
  refine z_bipush (v := nI 60) (n := 9) hC dX3_addGun_7 (by decide) rfl ?_
  refine z_callsb (R := { frames := 1, cells := 0, slots := 0, locals := 22 }) (cells := 0) (slots := 0) (ws := wN ma cI (nI 0) n sw st b r T sc fi mi fa K) (n := 12) (As := [.int x, .int (nI 5), .int (nI 60)]) (rest := []) hC (k_X3_isFrom_t l G cI cZ cJ x (nI 5) (nI 60) hx1 (Int32.not_lt.mpr hx2)) kg_X3_35 kd_yX3_isFrom dX3_addGun_9 ⟨Nat.le_of_ble_eq_true rfl, Nat.le_of_ble_eq_true rfl⟩ [] rfl (by decide) rfl (Nat.le_of_ble_eq_true rfl) ⟨Nat.le_of_ble_eq_true rfl, Nat.le_of_ble_eq_true rfl⟩ (ws2 := fun u1 => wN ma cI (nI 0) n sw st b r T sc fi mi fa K) [0, 1, 2, 3, 4, 5, 6] (fun _ => rfl) (wN ma cI (nI 0) n sw st b r T sc fi mi fa K) (fun _ => rfl) rfl (fun _ => rfl) [] (fun _ => rfl) rfl rfl rfl (fun r2 u1 h3 => ?_)
  subst h3
  refine z_if_eq_b (tgt := 25) (n := 15) hC true rfl dX3_addGun_12 (by decide) rfl (fun c4 => absurd c4 (by decide)) (fun c4 => ?_)
  refine z_iload_n (n := 16) hC dX3_addGun_15 rfl 2 rfl rfl ?_
  refine z_iconst (v := nI 1) (n := 17) hC dX3_addGun_16 (by decide) rfl ?_
  refine z_bipush (v := nI 9) (n := 19) hC dX3_addGun_17 (by decide) rfl ?_
  refine z_callsb (R := { frames := 1, cells := 0, slots := 0, locals := 22 }) (cells := 0) (slots := 0) (ws := wN ma cI (nI 0) n sw st b r T sc fi mi fa K) (n := 22) (As := [.int y, .int (nI 1), .int (nI 9)]) (rest := []) hC (k_X3_isFrom_t l G cI cZ cJ y (nI 1) (nI 9) hy1 (Int32.not_lt.mpr hy2)) kg_X3_35 kd_yX3_isFrom dX3_addGun_19 ⟨Nat.le_of_ble_eq_true rfl, Nat.le_of_ble_eq_true rfl⟩ [] rfl (by decide) rfl (Nat.le_of_ble_eq_true rfl) ⟨Nat.le_of_ble_eq_true rfl, Nat.le_of_ble_eq_true rfl⟩ (ws2 := fun u5 => wN ma cI (nI 0) n sw st b r T sc fi mi fa K) [0, 1, 2, 3, 4, 5, 6] (fun _ => rfl) (wN ma cI (nI 0) n sw st b r T sc fi mi fa K) (fun _ => rfl) rfl (fun _ => rfl) [] (fun _ => rfl) rfl rfl rfl (fun r6 u5 h7 => ?_)
  subst h7
  refine z_if_ne_b (tgt := 31) (n := 25) hC true rfl dX3_addGun_22 (by decide) rfl (fun c8 => ?_) (fun c8 => absurd c8 (by decide))
  refine z_aload_n (n := 32) hC dX3_addGun_31 rfl 0 rfl rfl ?_
  refine gf_X3_32 (v := .int (nI n)) (n := 35) hC 0 rfl rfl dX3_addGun_32 rfl ?_
  refine z_bipush (v := nI 6) (n := 37) hC dX3_addGun_35 (by decide) rfl ?_
  refine z_icmp_ne_n (tgt := 46) (n := 40) hC n 6 rfl rfl (by omega) (by omega) dX3_addGun_37 (by decide) rfl (fun c9 => absurd hn6 c9) (fun c9 => ?_)
  refine z_aload_n (n := 41) hC dX3_addGun_40 rfl 0 rfl rfl ?_
  refine z_iconst (v := nI 2) (n := 42) hC dX3_addGun_41 (by decide) rfl ?_
  refine z_calli (R := { frames := 1, cells := 0, slots := 0, locals := 22 }) (cells := 0) (slots := 0) (ws := wN ma cI (nI 0) n sw st b r T sc fi mi fa K) (n := 45) (As := [.int (nI 2)]) (rest := []) hC (k_X3_no l G cI cZ cJ ma (nI 0) n sw st b r T sc fi mi fa K (nI 2) (by omega) (by omega)) kg_X3_92 kd_yX3_no dX3_addGun_42 ⟨Nat.le_of_ble_eq_true rfl, Nat.le_of_ble_eq_true rfl⟩ 0 rfl rfl rfl [0, 1, 2, 3, 4, 5, 6] rfl (by decide) rfl (Nat.le_of_ble_eq_true rfl) ⟨Nat.le_of_ble_eq_true rfl, Nat.le_of_ble_eq_true rfl⟩ (ws2 := fun u10 => wN ma cI (nI 2) n sw st b r T sc fi mi fa K) [] (fun _ => rfl) ([]) (fun _ => rfl) rfl (fun _ => rfl) [ma 0, ma 1, ma 2, ma 3, ma 4, ma 5, ma 6] (fun _ => rfl) rfl rfl rfl (fun r11 u10 h12 => ?_)
  subst h12
  refine z_iret hC hr hlocks () ?_ rfl dX3_addGun_45 (by omega) (by omega)
  rfl

set_option maxRecDepth 100000 in
set_option maxHeartbeats 4000000 in
theorem k_X3_setTrap (l : Launch) (G : va_G) (cI cZ cJ : ClassId) (ma : Nat → Nat) (th : Int32) (n : Nat) (sw : Nat → Int32) (st : Nat → Int32) (b : Nat → Int32) (r : Nat → Int32) (T : Nat) (sc : Nat → Int32) (fi : Nat → Int32) (mi : Nat → Int32) (fa : Nat → Int32) (K : Nat → Int32) (s0 : Nat) (x : Int32) (y : Int32) (hn : n ≤ 6) (hT : T + 200 < 2 ^ 29) (hs : s0 < 5) (hx1 : ¬ x < (-45)) (hx2 : x ≤ nI 45) (hy1 : ¬ y < 0) (hy2 : y ≤ nI 45) : MI (Unit) l yX3_setTrap cX3_setTrap 5 1 22 G (tY cI cZ cJ) [.ref (ma 0), .int (nI s0), .int x, .int y] (wN ma cI th n sw st b r T sc fi mi fa K) (fun zr _ => zr = b s0) (fun _ => wN ma cI (nI 0) n sw st (upd b s0 x) (upd r s0 y) T sc fi mi fa K) 0 0 := by
  refine MI_of (by decide) (Nat.le_of_ble_eq_true rfl) [(0, .ref (ma 0)), (1, .int (nI s0)), (2, .int x), (3, .int y)] rfl ?_
  intro p e s m below meth c hC hr hlocks hname
  have hC : Cx p s m _ c cX3_setTrap 5 RX3 G (tY cI cZ cJ) _ := hC
  refine z_aload_n (n := 1) hC dX3_setTrap_0 rfl 0 rfl rfl ?_
  refine z_iconst (v := nI 0) (n := 2) hC dX3_setTrap_1 (by decide) rfl ?_
  refine pf_X3_28 (ws' := wN ma cI (nI 0) n sw st b r T sc fi mi fa K) (n := 5) hC 0 rfl (Nat.le_of_ble_eq_true rfl) dX3_setTrap_2 rfl rfl ?_
  refine z_iload_n (n := 6) hC dX3_setTrap_5 rfl 1 rfl rfl ?_
  refine z_iconst (v := nI 0) (n := 7) hC dX3_setTrap_6 (by decide) rfl ?_
  refine z_iconst (v := nI 4) (n := 8) hC dX3_setTrap_7 (by decide) rfl ?_
  refine z_callsb (R := { frames := 1, cells := 0, slots := 0, locals := 22 }) (cells := 0) (slots := 0) (ws := wN ma cI (nI 0) n sw st b r T sc fi mi fa K) (n := 11) (As := [.int (nI s0), .int (nI 0), .int (nI 4)]) (rest := []) hC (k_X3_isFrom_t l G cI cZ cJ (nI s0) (nI 0) (nI 4) (nI_nlt (Nat.zero_le _) (by omega)) (nI_nlt (by omega) (by omega))) kg_X3_35 kd_yX3_isFrom dX3_setTrap_8 ⟨Nat.le_of_ble_eq_true rfl, Nat.le_of_ble_eq_true rfl⟩ [] rfl (by decide) rfl (Nat.le_of_ble_eq_true rfl) ⟨Nat.le_of_ble_eq_true rfl, Nat.le_of_ble_eq_true rfl⟩ (ws2 := fun u1 => wN ma cI (nI 0) n sw st b r T sc fi mi fa K) [0, 1, 2, 3, 4, 5, 6] (fun _ => rfl) (wN ma cI (nI 0) n sw st b r T sc fi mi fa K) (fun _ => rfl) rfl (fun _ => rfl) [] (fun _ => rfl) rfl rfl rfl (fun r2 u1 h3 => ?_)
  subst h3
  refine z_if_ne_b (tgt := 20) (n := 14) hC true rfl dX3_setTrap_11 (by decide) rfl (fun c4 => ?_) (fun c4 => absurd c4 (by decide))
  refine z_iload_n (n := 21) hC dX3_setTrap_20 rfl 2 rfl rfl ?_
  refine z_bipush (v := (-45)) (n := 23) hC dX3_setTrap_21 (by decide) rfl ?_
  refine z_bipush (v := nI 45) (n := 25) hC dX3_setTrap_23 (by decide) rfl ?_
  refine z_callsb (R := { frames := 1, cells := 0, slots := 0, locals := 22 }) (cells := 0) (slots := 0) (ws := wN ma cI (nI 0) n sw st b r T sc fi mi fa K) (n := 28) (As := [.int x, .int (-45), .int (nI 45)]) (rest := []) hC (k_X3_isFrom_t l G cI cZ cJ x (-45) (nI 45) hx1 (Int32.not_lt.mpr hx2)) kg_X3_35 kd_yX3_isFrom dX3_setTrap_25 ⟨Nat.le_of_ble_eq_true rfl, Nat.le_of_ble_eq_true rfl⟩ [] rfl (by decide) rfl (Nat.le_of_ble_eq_true rfl) ⟨Nat.le_of_ble_eq_true rfl, Nat.le_of_ble_eq_true rfl⟩ (ws2 := fun u5 => wN ma cI (nI 0) n sw st b r T sc fi mi fa K) [0, 1, 2, 3, 4, 5, 6] (fun _ => rfl) (wN ma cI (nI 0) n sw st b r T sc fi mi fa K) (fun _ => rfl) rfl (fun _ => rfl) [] (fun _ => rfl) rfl rfl rfl (fun r6 u5 h7 => ?_)
  subst h7
  refine z_if_eq_b (tgt := 41) (n := 31) hC true rfl dX3_setTrap_28 (by decide) rfl (fun c8 => absurd c8 (by decide)) (fun c8 => ?_)
  refine z_iload_n (n := 32) hC dX3_setTrap_31 rfl 3 rfl rfl ?_
  refine z_iconst (v := nI 0) (n := 33) hC dX3_setTrap_32 (by decide) rfl ?_
  refine z_bipush (v := nI 45) (n := 35) hC dX3_setTrap_33 (by decide) rfl ?_
  refine z_callsb (R := { frames := 1, cells := 0, slots := 0, locals := 22 }) (cells := 0) (slots := 0) (ws := wN ma cI (nI 0) n sw st b r T sc fi mi fa K) (n := 38) (As := [.int y, .int (nI 0), .int (nI 45)]) (rest := []) hC (k_X3_isFrom_t l G cI cZ cJ y (nI 0) (nI 45) (nI_0 ▸ hy1) (Int32.not_lt.mpr hy2)) kg_X3_35 kd_yX3_isFrom dX3_setTrap_35 ⟨Nat.le_of_ble_eq_true rfl, Nat.le_of_ble_eq_true rfl⟩ [] rfl (by decide) rfl (Nat.le_of_ble_eq_true rfl) ⟨Nat.le_of_ble_eq_true rfl, Nat.le_of_ble_eq_true rfl⟩ (ws2 := fun u9 => wN ma cI (nI 0) n sw st b r T sc fi mi fa K) [0, 1, 2, 3, 4, 5, 6] (fun _ => rfl) (wN ma cI (nI 0) n sw st b r T sc fi mi fa K) (fun _ => rfl) rfl (fun _ => rfl) [] (fun _ => rfl) rfl rfl rfl (fun r10 u9 h11 => ?_)
  subst h11
  refine z_if_ne_b (tgt := 47) (n := 41) hC true rfl dX3_setTrap_38 (by decide) rfl (fun c12 => ?_) (fun c12 => absurd c12 (by decide))
  refine z_aload_n (n := 48) hC dX3_setTrap_47 rfl 0 rfl rfl ?_
  refine gf_X3_16 (v := .ref (ma 3)) (n := 51) hC 0 rfl rfl dX3_setTrap_48 rfl ?_
  refine z_iload_n (n := 52) hC dX3_setTrap_51 rfl 1 rfl rfl ?_
  refine z_iald (v := b s0) (n := 53) hC 3 0 s0 rfl rfl rfl (by omega) (by decide) dX3_setTrap_52 rfl rfl ?_
  refine z_istore (lv' := [(4, .int (b s0)), (0, .ref (ma 0)), (1, .int (nI s0)), (2, .int x), (3, .int y)]) (n := 55) hC dX3_setTrap_53 (by decide) rfl rfl ?_
  refine z_aload_n (n := 56) hC dX3_setTrap_55 rfl 1 rfl rfl ?_
  refine gf_X3_16 (v := .ref (ma 3)) (n := 59) hC 0 rfl rfl dX3_setTrap_56 rfl ?_
  refine z_iload_n (n := 60) hC dX3_setTrap_59 rfl 2 rfl rfl ?_
  refine z_iload_n (n := 61) hC dX3_setTrap_60 rfl 3 rfl rfl ?_
  refine z_iast (ws' := wN ma cI (nI 0) n sw st (upd b s0 x) r T sc fi mi fa K) (n := 62) hC 3 0 s0 rfl rfl rfl (by omega) (by decide) dX3_setTrap_61 rfl rfl rfl ?_
  refine z_aload_n (n := 63) hC dX3_setTrap_62 rfl 1 rfl rfl ?_
  refine gf_X3_19 (v := .ref (ma 4)) (n := 66) hC 0 rfl rfl dX3_setTrap_63 rfl ?_
  refine z_iload_n (n := 67) hC dX3_setTrap_66 rfl 2 rfl rfl ?_
  refine z_iload_n (n := 68) hC dX3_setTrap_67 rfl 4 rfl rfl ?_
  refine z_iast (ws' := wN ma cI (nI 0) n sw st (upd b s0 x) (upd r s0 y) T sc fi mi fa K) (n := 69) hC 4 0 s0 rfl rfl rfl (by omega) (by decide) dX3_setTrap_68 rfl rfl rfl ?_
  refine z_iload (n := 71) hC dX3_setTrap_69 0 rfl rfl ?_
  refine z_iret hC hr hlocks () ?_ rfl dX3_setTrap_71 (by omega) (by omega)
  rfl

set_option maxRecDepth 100000 in
set_option maxHeartbeats 4000000 in
theorem k_X3_setTrap_xa (l : Launch) (G : va_G) (cI cZ cJ : ClassId) (ma : Nat → Nat) (th : Int32) (n : Nat) (sw : Nat → Int32) (st : Nat → Int32) (b : Nat → Int32) (r : Nat → Int32) (T : Nat) (sc : Nat → Int32) (fi : Nat → Int32) (mi : Nat → Int32) (fa : Nat → Int32) (K : Nat → Int32) (x : Int32) (y : Int32) (z : Int32) (hn : n ≤ 6) (hT : T + 200 < 2 ^ 29) (hb : x < 0 ∨ nI 5 ≤ x) : MI (Unit) l yX3_setTrap cX3_setTrap 5 1 22 G (tY cI cZ cJ) [.ref (ma 0), .int x, .int y, .int z] (wN ma cI th n sw st b r T sc fi mi fa K) (fun zr _ => zr = nI 0) (fun _ => wN ma cI (nI 1) n sw st b r T sc fi mi fa K) 0 0 := by
  refine MI_of (by decide) (Nat.le_of_ble_eq_true rfl) [(0, .ref (ma 0)), (1, .int x), (2, .int y), (3, .int z)] rfl ?_
  intro p e s m below meth c hC hr hlocks hname
  have hC : Cx p s m _ c cX3_setTrap 5 RX3 G (tY cI cZ cJ) _ := hC
  refine z_aload_n (n := 1) hC dX3_setTrap_0 rfl 0 rfl rfl ?_
  refine z_iconst (v := nI 0) (n := 2) hC dX3_setTrap_1 (by decide) rfl ?_
  refine pf_X3_28 (ws' := wN ma cI (nI 0) n sw st b r T sc fi mi fa K) (n := 5) hC 0 rfl (Nat.le_of_ble_eq_true rfl) dX3_setTrap_2 rfl rfl ?_
  refine z_iload_n (n := 6) hC dX3_setTrap_5 rfl 1 rfl rfl ?_
  refine z_iconst (v := nI 0) (n := 7) hC dX3_setTrap_6 (by decide) rfl ?_
  refine z_iconst (v := nI 4) (n := 8) hC dX3_setTrap_7 (by decide) rfl ?_
  refine z_callsb (R := { frames := 1, cells := 0, slots := 0, locals := 22 }) (cells := 0) (slots := 0) (ws := wN ma cI (nI 0) n sw st b r T sc fi mi fa K) (n := 11) (As := [.int x, .int (nI 0), .int (nI 4)]) (rest := []) hC (k_X3_isFrom_f l G cI cZ cJ x (nI 0) (nI 4) (bad_5 hb)) kg_X3_35 kd_yX3_isFrom dX3_setTrap_8 ⟨Nat.le_of_ble_eq_true rfl, Nat.le_of_ble_eq_true rfl⟩ [] rfl (by decide) rfl (Nat.le_of_ble_eq_true rfl) ⟨Nat.le_of_ble_eq_true rfl, Nat.le_of_ble_eq_true rfl⟩ (ws2 := fun u1 => wN ma cI (nI 0) n sw st b r T sc fi mi fa K) [0, 1, 2, 3, 4, 5, 6] (fun _ => rfl) (wN ma cI (nI 0) n sw st b r T sc fi mi fa K) (fun _ => rfl) rfl (fun _ => rfl) [] (fun _ => rfl) rfl rfl rfl (fun r2 u1 h3 => ?_)
  subst h3
  refine z_if_ne_b (tgt := 20) (n := 14) hC false rfl dX3_setTrap_11 (by decide) rfl (fun c4 => absurd c4 (by decide)) (fun c4 => ?_)
  refine z_aload_n (n := 15) hC dX3_setTrap_14 rfl 0 rfl rfl ?_
  refine z_iconst (v := nI 1) (n := 16) hC dX3_setTrap_15 (by decide) rfl ?_
  refine z_calli (R := { frames := 1, cells := 0, slots := 0, locals := 22 }) (cells := 0) (slots := 0) (ws := wN ma cI (nI 0) n sw st b r T sc fi mi fa K) (n := 19) (As := [.int (nI 1)]) (rest := []) hC (k_X3_no l G cI cZ cJ ma (nI 0) n sw st b r T sc fi mi fa K (nI 1) (by omega) (by omega)) kg_X3_92 kd_yX3_no dX3_setTrap_16 ⟨Nat.le_of_ble_eq_true rfl, Nat.le_of_ble_eq_true rfl⟩ 0 rfl rfl rfl [0, 1, 2, 3, 4, 5, 6] rfl (by decide) rfl (Nat.le_of_ble_eq_true rfl) ⟨Nat.le_of_ble_eq_true rfl, Nat.le_of_ble_eq_true rfl⟩ (ws2 := fun u5 => wN ma cI (nI 1) n sw st b r T sc fi mi fa K) [] (fun _ => rfl) ([]) (fun _ => rfl) rfl (fun _ => rfl) [ma 0, ma 1, ma 2, ma 3, ma 4, ma 5, ma 6] (fun _ => rfl) rfl rfl rfl (fun r6 u5 h7 => ?_)
  subst h7
  refine z_iret hC hr hlocks () ?_ rfl dX3_setTrap_19 (by omega) (by omega)
  rfl

set_option maxRecDepth 100000 in
set_option maxHeartbeats 4000000 in
theorem k_X3_setTrap_xb (l : Launch) (G : va_G) (cI cZ cJ : ClassId) (ma : Nat → Nat) (th : Int32) (n : Nat) (sw : Nat → Int32) (st : Nat → Int32) (b : Nat → Int32) (r : Nat → Int32) (T : Nat) (sc : Nat → Int32) (fi : Nat → Int32) (mi : Nat → Int32) (fa : Nat → Int32) (K : Nat → Int32) (s0 : Nat) (x : Int32) (y : Int32) (hn : n ≤ 6) (hT : T + 200 < 2 ^ 29) (hs : s0 < 5) (hb : x < (-45) ∨ nI 45 < x) : MI (Unit) l yX3_setTrap cX3_setTrap 5 1 22 G (tY cI cZ cJ) [.ref (ma 0), .int (nI s0), .int x, .int y] (wN ma cI th n sw st b r T sc fi mi fa K) (fun zr _ => zr = nI 0) (fun _ => wN ma cI (nI 2) n sw st b r T sc fi mi fa K) 0 0 := by
  refine MI_of (by decide) (Nat.le_of_ble_eq_true rfl) [(0, .ref (ma 0)), (1, .int (nI s0)), (2, .int x), (3, .int y)] rfl ?_
  intro p e s m below meth c hC hr hlocks hname
  have hC : Cx p s m _ c cX3_setTrap 5 RX3 G (tY cI cZ cJ) _ := hC
  refine z_aload_n (n := 1) hC dX3_setTrap_0 rfl 0 rfl rfl ?_
  refine z_iconst (v := nI 0) (n := 2) hC dX3_setTrap_1 (by decide) rfl ?_
  refine pf_X3_28 (ws' := wN ma cI (nI 0) n sw st b r T sc fi mi fa K) (n := 5) hC 0 rfl (Nat.le_of_ble_eq_true rfl) dX3_setTrap_2 rfl rfl ?_
  refine z_iload_n (n := 6) hC dX3_setTrap_5 rfl 1 rfl rfl ?_
  refine z_iconst (v := nI 0) (n := 7) hC dX3_setTrap_6 (by decide) rfl ?_
  refine z_iconst (v := nI 4) (n := 8) hC dX3_setTrap_7 (by decide) rfl ?_
  refine z_callsb (R := { frames := 1, cells := 0, slots := 0, locals := 22 }) (cells := 0) (slots := 0) (ws := wN ma cI (nI 0) n sw st b r T sc fi mi fa K) (n := 11) (As := [.int (nI s0), .int (nI 0), .int (nI 4)]) (rest := []) hC (k_X3_isFrom_t l G cI cZ cJ (nI s0) (nI 0) (nI 4) (nI_nlt (Nat.zero_le _) (by omega)) (nI_nlt (by omega) (by omega))) kg_X3_35 kd_yX3_isFrom dX3_setTrap_8 ⟨Nat.le_of_ble_eq_true rfl, Nat.le_of_ble_eq_true rfl⟩ [] rfl (by decide) rfl (Nat.le_of_ble_eq_true rfl) ⟨Nat.le_of_ble_eq_true rfl, Nat.le_of_ble_eq_true rfl⟩ (ws2 := fun u1 => wN ma cI (nI 0) n sw st b r T sc fi mi fa K) [0, 1, 2, 3, 4, 5, 6] (fun _ => rfl) (wN ma cI (nI 0) n sw st b r T sc fi mi fa K) (fun _ => rfl) rfl (fun _ => rfl) [] (fun _ => rfl) rfl rfl rfl (fun r2 u1 h3 => ?_)
  subst h3
  refine z_if_ne_b (tgt := 20) (n := 14) hC true rfl dX3_setTrap_11 (by decide) rfl (fun c4 => ?_) (fun c4 => absurd c4 (by decide))
  refine z_iload_n (n := 21) hC dX3_setTrap_20 rfl 2 rfl rfl ?_
  refine z_bipush (v := (-45)) (n := 23) hC dX3_setTrap_21 (by decide) rfl ?_
  refine z_bipush (v := nI 45) (n := 25) hC dX3_setTrap_23 (by decide) rfl ?_
  refine z_callsb (R := { frames := 1, cells := 0, slots := 0, locals := 22 }) (cells := 0) (slots := 0) (ws := wN ma cI (nI 0) n sw st b r T sc fi mi fa K) (n := 28) (As := [.int x, .int (-45), .int (nI 45)]) (rest := []) hC (k_X3_isFrom_f l G cI cZ cJ x (-45) (nI 45) hb) kg_X3_35 kd_yX3_isFrom dX3_setTrap_25 ⟨Nat.le_of_ble_eq_true rfl, Nat.le_of_ble_eq_true rfl⟩ [] rfl (by decide) rfl (Nat.le_of_ble_eq_true rfl) ⟨Nat.le_of_ble_eq_true rfl, Nat.le_of_ble_eq_true rfl⟩ (ws2 := fun u5 => wN ma cI (nI 0) n sw st b r T sc fi mi fa K) [0, 1, 2, 3, 4, 5, 6] (fun _ => rfl) (wN ma cI (nI 0) n sw st b r T sc fi mi fa K) (fun _ => rfl) rfl (fun _ => rfl) [] (fun _ => rfl) rfl rfl rfl (fun r6 u5 h7 => ?_)
  subst h7
  refine z_if_eq_b (tgt := 41) (n := 31) hC false rfl dX3_setTrap_28 (by decide) rfl (fun c8 => ?_) (fun c8 => absurd c8 (by decide))
  refine z_aload_n (n := 42) hC dX3_setTrap_41 rfl 0 rfl rfl ?_
  refine z_iconst (v := nI 2) (n := 43) hC dX3_setTrap_42 (by decide) rfl ?_
  refine z_calli (R := { frames := 1, cells := 0, slots := 0, locals := 22 }) (cells := 0) (slots := 0) (ws := wN ma cI (nI 0) n sw st b r T sc fi mi fa K) (n := 46) (As := [.int (nI 2)]) (rest := []) hC (k_X3_no l G cI cZ cJ ma (nI 0) n sw st b r T sc fi mi fa K (nI 2) (by omega) (by omega)) kg_X3_92 kd_yX3_no dX3_setTrap_43 ⟨Nat.le_of_ble_eq_true rfl, Nat.le_of_ble_eq_true rfl⟩ 0 rfl rfl rfl [0, 1, 2, 3, 4, 5, 6] rfl (by decide) rfl (Nat.le_of_ble_eq_true rfl) ⟨Nat.le_of_ble_eq_true rfl, Nat.le_of_ble_eq_true rfl⟩ (ws2 := fun u9 => wN ma cI (nI 2) n sw st b r T sc fi mi fa K) [] (fun _ => rfl) ([]) (fun _ => rfl) rfl (fun _ => rfl) [ma 0, ma 1, ma 2, ma 3, ma 4, ma 5, ma 6] (fun _ => rfl) rfl rfl rfl (fun r10 u9 h11 => ?_)
  subst h11
  refine z_iret hC hr hlocks () ?_ rfl dX3_setTrap_46 (by omega) (by omega)
  rfl

set_option maxRecDepth 100000 in
set_option maxHeartbeats 4000000 in
theorem k_X3_setTrap_xc (l : Launch) (G : va_G) (cI cZ cJ : ClassId) (ma : Nat → Nat) (th : Int32) (n : Nat) (sw : Nat → Int32) (st : Nat → Int32) (b : Nat → Int32) (r : Nat → Int32) (T : Nat) (sc : Nat → Int32) (fi : Nat → Int32) (mi : Nat → Int32) (fa : Nat → Int32) (K : Nat → Int32) (s0 : Nat) (x : Int32) (y : Int32) (hn : n ≤ 6) (hT : T + 200 < 2 ^ 29) (hs : s0 < 5) (hx1 : ¬ x < (-45)) (hx2 : x ≤ nI 45) (hb : y < 0 ∨ nI 45 < y) : MI (Unit) l yX3_setTrap cX3_setTrap 5 1 22 G (tY cI cZ cJ) [.ref (ma 0), .int (nI s0), .int x, .int y] (wN ma cI th n sw st b r T sc fi mi fa K) (fun zr _ => zr = nI 0) (fun _ => wN ma cI (nI 2) n sw st b r T sc fi mi fa K) 0 0 := by
  refine MI_of (by decide) (Nat.le_of_ble_eq_true rfl) [(0, .ref (ma 0)), (1, .int (nI s0)), (2, .int x), (3, .int y)] rfl ?_
  intro p e s m below meth c hC hr hlocks hname
  have hC : Cx p s m _ c cX3_setTrap 5 RX3 G (tY cI cZ cJ) _ := hC
  refine z_aload_n (n := 1) hC dX3_setTrap_0 rfl 0 rfl rfl ?_
  refine z_iconst (v := nI 0) (n := 2) hC dX3_setTrap_1 (by decide) rfl ?_
  refine pf_X3_28 (ws' := wN ma cI (nI 0) n sw st b r T sc fi mi fa K) (n := 5) hC 0 rfl (Nat.le_of_ble_eq_true rfl) dX3_setTrap_2 rfl rfl ?_
  refine z_iload_n (n := 6) hC dX3_setTrap_5 rfl 1 rfl rfl ?_
  refine z_iconst (v := nI 0) (n := 7) hC dX3_setTrap_6 (by decide) rfl ?_
  refine z_iconst (v := nI 4) (n := 8) hC dX3_setTrap_7 (by decide) rfl ?_
  refine z_callsb (R := { frames := 1, cells := 0, slots := 0, locals := 22 }) (cells := 0) (slots := 0) (ws := wN ma cI (nI 0) n sw st b r T sc fi mi fa K) (n := 11) (As := [.int (nI s0), .int (nI 0), .int (nI 4)]) (rest := []) hC (k_X3_isFrom_t l G cI cZ cJ (nI s0) (nI 0) (nI 4) (nI_nlt (Nat.zero_le _) (by omega)) (nI_nlt (by omega) (by omega))) kg_X3_35 kd_yX3_isFrom dX3_setTrap_8 ⟨Nat.le_of_ble_eq_true rfl, Nat.le_of_ble_eq_true rfl⟩ [] rfl (by decide) rfl (Nat.le_of_ble_eq_true rfl) ⟨Nat.le_of_ble_eq_true rfl, Nat.le_of_ble_eq_true rfl⟩ (ws2 := fun u1 => wN ma cI (nI 0) n sw st b r T sc fi mi fa K) [0, 1, 2, 3, 4, 5, 6] (fun _ => rfl) (wN ma cI (nI 0) n sw st b r T sc fi mi fa K) (fun _ => rfl) rfl (fun _ => rfl) [] (fun _ => rfl) rfl rfl rfl (fun r2 u1 h3 => ?_)
  subst h3
  refine z_if_ne_b (tgt := 20) (n := 14) hC true rfl dX3_setTrap_11 (by decide) rfl (fun c4 => ?_) (fun c4 => absurd c4 (by decide))
  refine z_iload_n (n := 21) hC dX3_setTrap_20 rfl 2 rfl rfl ?_
  refine z_bipush (v := (-45)) (n := 23) hC dX3_setTrap_21 (by decide) rfl ?_
  refine z_bipush (v := nI 45) (n := 25) hC dX3_setTrap_23 (by decide) rfl ?_
  refine z_callsb (R := { frames := 1, cells := 0, slots := 0, locals := 22 }) (cells := 0) (slots := 0) (ws := wN ma cI (nI 0) n sw st b r T sc fi mi fa K) (n := 28) (As := [.int x, .int (-45), .int (nI 45)]) (rest := []) hC (k_X3_isFrom_t l G cI cZ cJ x (-45) (nI 45) hx1 (Int32.not_lt.mpr hx2)) kg_X3_35 kd_yX3_isFrom dX3_setTrap_25 ⟨Nat.le_of_ble_eq_true rfl, Nat.le_of_ble_eq_true rfl⟩ [] rfl (by decide) rfl (Nat.le_of_ble_eq_true rfl) ⟨Nat.le_of_ble_eq_true rfl, Nat.le_of_ble_eq_true rfl⟩ (ws2 := fun u5 => wN ma cI (nI 0) n sw st b r T sc fi mi fa K) [0, 1, 2, 3, 4, 5, 6] (fun _ => rfl) (wN ma cI (nI 0) n sw st b r T sc fi mi fa K) (fun _ => rfl) rfl (fun _ => rfl) [] (fun _ => rfl) rfl rfl rfl (fun r6 u5 h7 => ?_)
  subst h7
  refine z_if_eq_b (tgt := 41) (n := 31) hC true rfl dX3_setTrap_28 (by decide) rfl (fun c8 => absurd c8 (by decide)) (fun c8 => ?_)
  refine z_iload_n (n := 32) hC dX3_setTrap_31 rfl 3 rfl rfl ?_
  refine z_iconst (v := nI 0) (n := 33) hC dX3_setTrap_32 (by decide) rfl ?_
  refine z_bipush (v := nI 45) (n := 35) hC dX3_setTrap_33 (by decide) rfl ?_
  refine z_callsb (R := { frames := 1, cells := 0, slots := 0, locals := 22 }) (cells := 0) (slots := 0) (ws := wN ma cI (nI 0) n sw st b r T sc fi mi fa K) (n := 38) (As := [.int y, .int (nI 0), .int (nI 45)]) (rest := []) hC (k_X3_isFrom_f l G cI cZ cJ y (nI 0) (nI 45) (nI_0 ▸ hb)) kg_X3_35 kd_yX3_isFrom dX3_setTrap_35 ⟨Nat.le_of_ble_eq_true rfl, Nat.le_of_ble_eq_true rfl⟩ [] rfl (by decide) rfl (Nat.le_of_ble_eq_true rfl) ⟨Nat.le_of_ble_eq_true rfl, Nat.le_of_ble_eq_true rfl⟩ (ws2 := fun u9 => wN ma cI (nI 0) n sw st b r T sc fi mi fa K) [0, 1, 2, 3, 4, 5, 6] (fun _ => rfl) (wN ma cI (nI 0) n sw st b r T sc fi mi fa K) (fun _ => rfl) rfl (fun _ => rfl) [] (fun _ => rfl) rfl rfl rfl (fun r10 u9 h11 => ?_)
  subst h11
  refine z_if_ne_b (tgt := 47) (n := 41) hC false rfl dX3_setTrap_38 (by decide) rfl (fun c12 => absurd c12 (by decide)) (fun c12 => ?_)
  refine z_aload_n (n := 42) hC dX3_setTrap_41 rfl 0 rfl rfl ?_
  refine z_iconst (v := nI 2) (n := 43) hC dX3_setTrap_42 (by decide) rfl ?_
  refine z_calli (R := { frames := 1, cells := 0, slots := 0, locals := 22 }) (cells := 0) (slots := 0) (ws := wN ma cI (nI 0) n sw st b r T sc fi mi fa K) (n := 46) (As := [.int (nI 2)]) (rest := []) hC (k_X3_no l G cI cZ cJ ma (nI 0) n sw st b r T sc fi mi fa K (nI 2) (by omega) (by omega)) kg_X3_92 kd_yX3_no dX3_setTrap_43 ⟨Nat.le_of_ble_eq_true rfl, Nat.le_of_ble_eq_true rfl⟩ 0 rfl rfl rfl [0, 1, 2, 3, 4, 5, 6] rfl (by decide) rfl (Nat.le_of_ble_eq_true rfl) ⟨Nat.le_of_ble_eq_true rfl, Nat.le_of_ble_eq_true rfl⟩ (ws2 := fun u13 => wN ma cI (nI 2) n sw st b r T sc fi mi fa K) [] (fun _ => rfl) ([]) (fun _ => rfl) rfl (fun _ => rfl) [ma 0, ma 1, ma 2, ma 3, ma 4, ma 5, ma 6] (fun _ => rfl) rfl rfl rfl (fun r14 u13 h15 => ?_)
  subst h15
  refine z_iret hC hr hlocks () ?_ rfl dX3_setTrap_46 (by omega) (by omega)
  rfl

set_option maxRecDepth 100000 in
set_option maxHeartbeats 4000000 in
theorem k_X3_rest (l : Launch) (G : va_G) (cI cZ cJ : ClassId) (ma : Nat → Nat) (th : Int32) (n : Nat) (sw : Nat → Int32) (st : Nat → Int32) (b : Nat → Int32) (r : Nat → Int32) (T : Nat) (sc : Nat → Int32) (fi : Nat → Int32) (mi : Nat → Int32) (fa : Nat → Int32) (K : Nat → Int32) (g : Nat) (hn : n ≤ 6) (hT : T + 200 < 2 ^ 29) (hg : g < n) : MI (Unit) l yX3_rest cX3_rest 3 2 43 G (tY cI cZ cJ) [.ref (ma 0), .int (nI g)] (wN ma cI th n sw st b r T sc fi mi fa K) (fun zr _ => zr = fa g) (fun _ => wN ma cI (nI 0) n sw st b r T sc fi mi (upd fa g (nI 0)) K) 0 0 := by
  refine MI_of (by decide) (Nat.le_of_ble_eq_true rfl) [(0, .ref (ma 0)), (1, .int (nI g))] rfl ?_
  intro p e s m below meth c hC hr hlocks hname
  have hC : Cx p s m _ c cX3_rest 3 RX3 G (tY cI cZ cJ) _ := hC
  refine z_aload_n (n := 1) hC dX3_rest_0 rfl 0 rfl rfl ?_
  refine z_iconst (v := nI 0) (n := 2) hC dX3_rest_1 (by decide) rfl ?_
  refine pf_X3_28 (ws' := wN ma cI (nI 0) n sw st b r T sc fi mi fa K) (n := 5) hC 0 rfl (Nat.le_of_ble_eq_true rfl) dX3_rest_2 rfl rfl ?_
  refine z_aload_n (n := 6) hC dX3_rest_5 rfl 0 rfl rfl ?_
  refine z_iload_n (n := 7) hC dX3_rest_6 rfl 1 rfl rfl ?_
  refine z_callb (R := { frames := 2, cells := 0, slots := 0, locals := 43 }) (cells := 0) (slots := 0) (ws := wN ma cI (nI 0) n sw st b r T sc fi mi fa K) (n := 10) (As := [.int (nI g)]) (rest := []) hC (k_X3_isGun_t l G cI cZ cJ ma (nI 0) n sw st b r T sc fi mi fa K g (by omega) hg) kg_X3_95 kd_yX3_isGun dX3_rest_7 ⟨Nat.le_of_ble_eq_true rfl, Nat.le_of_ble_eq_true rfl⟩ 0 rfl rfl rfl [0, 1, 2, 3, 4, 5, 6] rfl (by decide) rfl (Nat.le_of_ble_eq_true rfl) ⟨Nat.le_of_ble_eq_true rfl, Nat.le_of_ble_eq_true rfl⟩ (ws2 := fun u1 => wN ma cI (nI 0) n sw st b r T sc fi mi fa K) [] (fun _ => rfl) ([]) (fun _ => rfl) rfl (fun _ => rfl) [ma 0, ma 1, ma 2, ma 3, ma 4, ma 5, ma 6] (fun _ => rfl) rfl rfl rfl (fun r2 u1 h3 => ?_)
  subst h3
  refine z_if_ne_b (tgt := 19) (n := 13) hC true rfl dX3_rest_10 (by decide) rfl (fun c4 => ?_) (fun c4 => absurd c4 (by decide))
  refine z_aload_n (n := 20) hC dX3_rest_19 rfl 0 rfl rfl ?_
  refine gf_X3_22 (v := .ref (ma 5)) (n := 23) hC 0 rfl rfl dX3_rest_20 rfl ?_
  refine z_bipush (v := nI 19) (n := 25) hC dX3_rest_23 (by decide) rfl ?_
  refine z_iload_n (n := 26) hC dX3_rest_25 rfl 1 rfl rfl ?_
  refine z_iadd (v := nI (19 + g)) (n := 27) hC dX3_rest_26 (nI_add 19 g) rfl ?_
  refine z_iald (v := fa g) (n := 28) hC 5 0 (19 + g) rfl rfl rfl (by omega) (by decide) dX3_rest_27 (nw_fa) rfl ?_
  refine z_istore_n (lv' := [(2, .int (fa g)), (0, .ref (ma 0)), (1, .int (nI g))]) (n := 29) hC dX3_rest_28 rfl (by decide) rfl rfl ?_
  refine z_aload_n (n := 30) hC dX3_rest_29 rfl 1 rfl rfl ?_
  refine gf_X3_22 (v := .ref (ma 5)) (n := 33) hC 0 rfl rfl dX3_rest_30 rfl ?_
  refine z_bipush (v := nI 19) (n := 35) hC dX3_rest_33 (by decide) rfl ?_
  refine z_iload_n (n := 36) hC dX3_rest_35 rfl 2 rfl rfl ?_
  refine z_iadd (v := nI (19 + g)) (n := 37) hC dX3_rest_36 (nI_add 19 g) rfl ?_
  refine z_iconst (v := nI 0) (n := 38) hC dX3_rest_37 (by decide) rfl ?_
  refine z_iast (ws' := wN ma cI (nI 0) n sw st b r T sc fi mi (upd fa g (nI 0)) K) (n := 39) hC 5 0 (19 + g) rfl rfl rfl (by omega) (by decide) dX3_rest_38 (nwu_fa) rfl rfl ?_
  refine z_iload_n (n := 40) hC dX3_rest_39 rfl 0 rfl rfl ?_
  refine z_iret hC hr hlocks () ?_ rfl dX3_rest_40 (by omega) (by omega)
  rfl

set_option maxRecDepth 100000 in
set_option maxHeartbeats 4000000 in
theorem k_X3_rest_x (l : Launch) (G : va_G) (cI cZ cJ : ClassId) (ma : Nat → Nat) (th : Int32) (n : Nat) (sw : Nat → Int32) (st : Nat → Int32) (b : Nat → Int32) (r : Nat → Int32) (T : Nat) (sc : Nat → Int32) (fi : Nat → Int32) (mi : Nat → Int32) (fa : Nat → Int32) (K : Nat → Int32) (x : Int32) (hn : n ≤ 6) (hT : T + 200 < 2 ^ 29) (hb : x < 0 ∨ nI n ≤ x) : MI (Unit) l yX3_rest cX3_rest 3 2 43 G (tY cI cZ cJ) [.ref (ma 0), .int x] (wN ma cI th n sw st b r T sc fi mi fa K) (fun zr _ => zr = nI 0) (fun _ => wN ma cI (nI 1) n sw st b r T sc fi mi fa K) 0 0 := by
  refine MI_of (by decide) (Nat.le_of_ble_eq_true rfl) [(0, .ref (ma 0)), (1, .int x)] rfl ?_
  intro p e s m below meth c hC hr hlocks hname
  have hC : Cx p s m _ c cX3_rest 3 RX3 G (tY cI cZ cJ) _ := hC
  refine z_aload_n (n := 1) hC dX3_rest_0 rfl 0 rfl rfl ?_
  refine z_iconst (v := nI 0) (n := 2) hC dX3_rest_1 (by decide) rfl ?_
  refine pf_X3_28 (ws' := wN ma cI (nI 0) n sw st b r T sc fi mi fa K) (n := 5) hC 0 rfl (Nat.le_of_ble_eq_true rfl) dX3_rest_2 rfl rfl ?_
  refine z_aload_n (n := 6) hC dX3_rest_5 rfl 0 rfl rfl ?_
  refine z_iload_n (n := 7) hC dX3_rest_6 rfl 1 rfl rfl ?_
  refine z_callb (R := { frames := 2, cells := 0, slots := 0, locals := 43 }) (cells := 0) (slots := 0) (ws := wN ma cI (nI 0) n sw st b r T sc fi mi fa K) (n := 10) (As := [.int x]) (rest := []) hC (k_X3_isGun_f l G cI cZ cJ ma (nI 0) n sw st b r T sc fi mi fa K x (by omega) hb) kg_X3_95 kd_yX3_isGun dX3_rest_7 ⟨Nat.le_of_ble_eq_true rfl, Nat.le_of_ble_eq_true rfl⟩ 0 rfl rfl rfl [0, 1, 2, 3, 4, 5, 6] rfl (by decide) rfl (Nat.le_of_ble_eq_true rfl) ⟨Nat.le_of_ble_eq_true rfl, Nat.le_of_ble_eq_true rfl⟩ (ws2 := fun u1 => wN ma cI (nI 0) n sw st b r T sc fi mi fa K) [] (fun _ => rfl) ([]) (fun _ => rfl) rfl (fun _ => rfl) [ma 0, ma 1, ma 2, ma 3, ma 4, ma 5, ma 6] (fun _ => rfl) rfl rfl rfl (fun r2 u1 h3 => ?_)
  subst h3
  refine z_if_ne_b (tgt := 19) (n := 13) hC false rfl dX3_rest_10 (by decide) rfl (fun c4 => absurd c4 (by decide)) (fun c4 => ?_)
  refine z_aload_n (n := 14) hC dX3_rest_13 rfl 0 rfl rfl ?_
  refine z_iconst (v := nI 1) (n := 15) hC dX3_rest_14 (by decide) rfl ?_
  refine z_calli (R := { frames := 2, cells := 0, slots := 0, locals := 43 }) (cells := 0) (slots := 0) (ws := wN ma cI (nI 0) n sw st b r T sc fi mi fa K) (n := 18) (As := [.int (nI 1)]) (rest := []) hC (k_X3_no l G cI cZ cJ ma (nI 0) n sw st b r T sc fi mi fa K (nI 1) (by omega) (by omega)) kg_X3_92 kd_yX3_no dX3_rest_15 ⟨Nat.le_of_ble_eq_true rfl, Nat.le_of_ble_eq_true rfl⟩ 0 rfl rfl rfl [0, 1, 2, 3, 4, 5, 6] rfl (by decide) rfl (Nat.le_of_ble_eq_true rfl) ⟨Nat.le_of_ble_eq_true rfl, Nat.le_of_ble_eq_true rfl⟩ (ws2 := fun u5 => wN ma cI (nI 1) n sw st b r T sc fi mi fa K) [] (fun _ => rfl) ([]) (fun _ => rfl) rfl (fun _ => rfl) [ma 0, ma 1, ma 2, ma 3, ma 4, ma 5, ma 6] (fun _ => rfl) rfl rfl rfl (fun r6 u5 h7 => ?_)
  subst h7
  refine z_iret hC hr hlocks () ?_ rfl dX3_rest_18 (by omega) (by omega)
  rfl

set_option maxRecDepth 100000 in
set_option maxHeartbeats 4000000 in
theorem k_X3_pass (l : Launch) (G : va_G) (cI cZ cJ : ClassId) (ma : Nat → Nat) (th : Int32) (n : Nat) (sw : Nat → Int32) (st : Nat → Int32) (b : Nat → Int32) (r : Nat → Int32) (T : Nat) (sc : Nat → Int32) (fi : Nat → Int32) (mi : Nat → Int32) (fa : Nat → Int32) (K : Nat → Int32) (k : Nat) (hn : n ≤ 6) (hT : T + 200 < 2 ^ 29) (hk1 : 1 ≤ k) (hk2 : k ≤ 50) (hst : ∀ g, g < n → nI 1 ≤ st g) : MI (Unit) l yX3_pass cX3_pass 3 6 129 G (tY cI cZ cJ) [.ref (ma 0), .int (nI k)] (wN ma cI th n sw st b r T sc fi mi fa K) (fun zr _ => zr = smF (fun zj => plM sw st b r sc fi mi fa T k zj - mi zj) n) (fun _ => wN ma cI (nI 0) n sw st b r (T + k) (pwF sc (plS sw st b r sc fi mi fa T k) n) (pwF fi (plF sw st b r sc fi mi fa T k) n) (pwF mi (plM sw st b r sc fi mi fa T k) n) (pwF fa (plA sw st b r sc fi mi fa T k) n) K) 0 0 := by
  refine MI_of (by decide) (Nat.le_of_ble_eq_true rfl) [(0, .ref (ma 0)), (1, .int (nI k))] rfl ?_
  intro p e s m below meth c hC hr hlocks hname
  have hC : Cx p s m _ c cX3_pass 3 RX3 G (tY cI cZ cJ) _ := hC
  refine z_aload_n (n := 1) hC dX3_pass_0 rfl 0 rfl rfl ?_
  refine z_iconst (v := nI 0) (n := 2) hC dX3_pass_1 (by decide) rfl ?_
  refine pf_X3_28 (ws' := wN ma cI (nI 0) n sw st b r T sc fi mi fa K) (n := 5) hC 0 rfl (Nat.le_of_ble_eq_true rfl) dX3_pass_2 rfl rfl ?_
  refine z_iload_n (n := 6) hC dX3_pass_5 rfl 1 rfl rfl ?_
  refine z_iconst (v := nI 1) (n := 7) hC dX3_pass_6 (by decide) rfl ?_
  refine z_bipush (v := nI 50) (n := 9) hC dX3_pass_7 (by decide) rfl ?_
  refine z_callsb (R := { frames := 6, cells := 0, slots := 0, locals := 129 }) (cells := 0) (slots := 0) (ws := wN ma cI (nI 0) n sw st b r T sc fi mi fa K) (n := 12) (As := [.int (nI k), .int (nI 1), .int (nI 50)]) (rest := []) hC (k_X3_isFrom_t l G cI cZ cJ (nI k) (nI 1) (nI 50) (nI_nlt (by omega) (by omega)) (nI_nlt (by omega) (by omega))) kg_X3_35 kd_yX3_isFrom dX3_pass_9 ⟨Nat.le_of_ble_eq_true rfl, Nat.le_of_ble_eq_true rfl⟩ [] rfl (by decide) rfl (Nat.le_of_ble_eq_true rfl) ⟨Nat.le_of_ble_eq_true rfl, Nat.le_of_ble_eq_true rfl⟩ (ws2 := fun u1 => wN ma cI (nI 0) n sw st b r T sc fi mi fa K) [0, 1, 2, 3, 4, 5, 6] (fun _ => rfl) (wN ma cI (nI 0) n sw st b r T sc fi mi fa K) (fun _ => rfl) rfl (fun _ => rfl) [] (fun _ => rfl) rfl rfl rfl (fun r2 u1 h3 => ?_)
  subst h3
  refine z_if_ne_b (tgt := 21) (n := 15) hC true rfl dX3_pass_12 (by decide) rfl (fun c4 => ?_) (fun c4 => absurd c4 (by decide))
  refine z_aload_n (n := 22) hC dX3_pass_21 rfl 0 rfl rfl ?_
  refine z_calli (R := { frames := 6, cells := 0, slots := 0, locals := 129 }) (cells := 0) (slots := 0) (ws := wN ma cI (nI 0) n sw st b r T sc fi mi fa K) (n := 25) (As := []) (rest := []) hC (k_X3_missed l G cI cZ cJ ma (nI 0) n sw st b r T sc fi mi fa K (by omega) (by omega)) kg_X3_99 kd_yX3_missed dX3_pass_22 ⟨Nat.le_of_ble_eq_true rfl, Nat.le_of_ble_eq_true rfl⟩ 0 rfl rfl rfl [0, 1, 2, 3, 4, 5, 6] rfl (by decide) rfl (Nat.le_of_ble_eq_true rfl) ⟨Nat.le_of_ble_eq_true rfl, Nat.le_of_ble_eq_true rfl⟩ (ws2 := fun u5 => wN ma cI (nI 0) n sw st b r T sc fi mi fa K) [] (fun _ => rfl) ([]) (fun _ => rfl) rfl (fun _ => rfl) [ma 0, ma 1, ma 2, ma 3, ma 4, ma 5, ma 6] (fun _ => rfl) rfl rfl rfl (fun r6 u5 h7 => ?_)
  subst h7
  refine z_istore_n (lv' := [(2, .int (smF mi n)), (0, .ref (ma 0)), (1, .int (nI k))]) (n := 26) hC dX3_pass_25 rfl (by decide) rfl rfl ?_
  refine z_aload_n (n := 27) hC dX3_pass_26 rfl 1 rfl rfl ?_
  refine z_iload_n (n := 28) hC dX3_pass_27 rfl 2 rfl rfl ?_
  refine z_callv (R := { frames := 6, cells := 0, slots := 0, locals := 129 }) (cells := 0) (slots := 0) (ws := wN ma cI (nI 0) n sw st b r T sc fi mi fa K) (n := 31) (As := [.int (nI k)]) (rest := []) hC (k_X3_turnsOn l G cI cZ cJ ma (nI 0) n sw st b r T sc fi mi fa K k (by omega) (by omega) (by omega) hst) kg_X3_102 kd_yX3_turnsOn dX3_pass_28 ⟨Nat.le_of_ble_eq_true rfl, Nat.le_of_ble_eq_true rfl⟩ 0 rfl rfl rfl [0, 1, 2, 3, 4, 5, 6] rfl (by decide) rfl (Nat.le_of_ble_eq_true rfl) ⟨Nat.le_of_ble_eq_true rfl, Nat.le_of_ble_eq_true rfl⟩ (ws2 := fun u8 => wN ma cI (nI 0) n sw st b r (T + k) (pwF sc (plS sw st b r sc fi mi fa T k) n) (pwF fi (plF sw st b r sc fi mi fa T k) n) (pwF mi (plM sw st b r sc fi mi fa T k) n) (pwF fa (plA sw st b r sc fi mi fa T k) n) K) [] (fun _ => rfl) ([]) (fun _ => rfl) rfl (fun _ => rfl) [ma 0, ma 1, ma 2, ma 3, ma 4, ma 5, ma 6] (fun _ => rfl) rfl rfl rfl (fun u8 h10 => ?_)
  refine z_aload_n (n := 32) hC dX3_pass_31 rfl 1 rfl rfl ?_
  refine z_calli (R := { frames := 6, cells := 0, slots := 0, locals := 129 }) (cells := 0) (slots := 0) (ws := wN ma cI (nI 0) n sw st b r (T + k) (pwF sc (plS sw st b r sc fi mi fa T k) n) (pwF fi (plF sw st b r sc fi mi fa T k) n) (pwF mi (plM sw st b r sc fi mi fa T k) n) (pwF fa (plA sw st b r sc fi mi fa T k) n) K) (n := 35) (As := []) (rest := []) hC (k_X3_missed l G cI cZ cJ ma (nI 0) n sw st b r (T + k) (pwF sc (plS sw st b r sc fi mi fa T k) n) (pwF fi (plF sw st b r sc fi mi fa T k) n) (pwF mi (plM sw st b r sc fi mi fa T k) n) (pwF fa (plA sw st b r sc fi mi fa T k) n) K (by omega) (by omega)) kg_X3_99 kd_yX3_missed dX3_pass_32 ⟨Nat.le_of_ble_eq_true rfl, Nat.le_of_ble_eq_true rfl⟩ 0 rfl rfl rfl [0, 1, 2, 3, 4, 5, 6] rfl (by decide) rfl (Nat.le_of_ble_eq_true rfl) ⟨Nat.le_of_ble_eq_true rfl, Nat.le_of_ble_eq_true rfl⟩ (ws2 := fun u11 => wN ma cI (nI 0) n sw st b r (T + k) (pwF sc (plS sw st b r sc fi mi fa T k) n) (pwF fi (plF sw st b r sc fi mi fa T k) n) (pwF mi (plM sw st b r sc fi mi fa T k) n) (pwF fa (plA sw st b r sc fi mi fa T k) n) K) [] (fun _ => rfl) ([]) (fun _ => rfl) rfl (fun _ => rfl) [ma 0, ma 1, ma 2, ma 3, ma 4, ma 5, ma 6] (fun _ => rfl) rfl rfl rfl (fun r12 u11 h13 => ?_)
  subst h13
  refine z_iload_n (n := 36) hC dX3_pass_35 rfl 0 rfl rfl ?_
  refine z_isub (v := (smF (pwF mi (plM sw st b r sc fi mi fa T k) n) n) - (smF mi n)) (n := 37) hC dX3_pass_36 rfl rfl ?_
  refine z_iret hC hr hlocks () ?_ rfl dX3_pass_37 (by omega) (by omega)
  exact sum_mi

set_option maxRecDepth 100000 in
set_option maxHeartbeats 4000000 in
theorem k_X3_pass_x (l : Launch) (G : va_G) (cI cZ cJ : ClassId) (ma : Nat → Nat) (th : Int32) (n : Nat) (sw : Nat → Int32) (st : Nat → Int32) (b : Nat → Int32) (r : Nat → Int32) (T : Nat) (sc : Nat → Int32) (fi : Nat → Int32) (mi : Nat → Int32) (fa : Nat → Int32) (K : Nat → Int32) (x : Int32) (hn : n ≤ 6) (hT : T + 200 < 2 ^ 29) (hb : x < nI 1 ∨ nI 50 < x) : MI (Unit) l yX3_pass cX3_pass 3 1 22 G (tY cI cZ cJ) [.ref (ma 0), .int x] (wN ma cI th n sw st b r T sc fi mi fa K) (fun zr _ => zr = nI 0) (fun _ => wN ma cI (nI 1) n sw st b r T sc fi mi fa K) 0 0 := by
  refine MI_of (by decide) (Nat.le_of_ble_eq_true rfl) [(0, .ref (ma 0)), (1, .int x)] rfl ?_
  intro p e s m below meth c hC hr hlocks hname
  have hC : Cx p s m _ c cX3_pass 3 RX3 G (tY cI cZ cJ) _ := hC
  refine z_aload_n (n := 1) hC dX3_pass_0 rfl 0 rfl rfl ?_
  refine z_iconst (v := nI 0) (n := 2) hC dX3_pass_1 (by decide) rfl ?_
  refine pf_X3_28 (ws' := wN ma cI (nI 0) n sw st b r T sc fi mi fa K) (n := 5) hC 0 rfl (Nat.le_of_ble_eq_true rfl) dX3_pass_2 rfl rfl ?_
  refine z_iload_n (n := 6) hC dX3_pass_5 rfl 1 rfl rfl ?_
  refine z_iconst (v := nI 1) (n := 7) hC dX3_pass_6 (by decide) rfl ?_
  refine z_bipush (v := nI 50) (n := 9) hC dX3_pass_7 (by decide) rfl ?_
  refine z_callsb (R := { frames := 1, cells := 0, slots := 0, locals := 22 }) (cells := 0) (slots := 0) (ws := wN ma cI (nI 0) n sw st b r T sc fi mi fa K) (n := 12) (As := [.int x, .int (nI 1), .int (nI 50)]) (rest := []) hC (k_X3_isFrom_f l G cI cZ cJ x (nI 1) (nI 50) hb) kg_X3_35 kd_yX3_isFrom dX3_pass_9 ⟨Nat.le_of_ble_eq_true rfl, Nat.le_of_ble_eq_true rfl⟩ [] rfl (by decide) rfl (Nat.le_of_ble_eq_true rfl) ⟨Nat.le_of_ble_eq_true rfl, Nat.le_of_ble_eq_true rfl⟩ (ws2 := fun u1 => wN ma cI (nI 0) n sw st b r T sc fi mi fa K) [0, 1, 2, 3, 4, 5, 6] (fun _ => rfl) (wN ma cI (nI 0) n sw st b r T sc fi mi fa K) (fun _ => rfl) rfl (fun _ => rfl) [] (fun _ => rfl) rfl rfl rfl (fun r2 u1 h3 => ?_)
  subst h3
  refine z_if_ne_b (tgt := 21) (n := 15) hC false rfl dX3_pass_12 (by decide) rfl (fun c4 => absurd c4 (by decide)) (fun c4 => ?_)
  refine z_aload_n (n := 16) hC dX3_pass_15 rfl 0 rfl rfl ?_
  refine z_iconst (v := nI 1) (n := 17) hC dX3_pass_16 (by decide) rfl ?_
  refine z_calli (R := { frames := 1, cells := 0, slots := 0, locals := 22 }) (cells := 0) (slots := 0) (ws := wN ma cI (nI 0) n sw st b r T sc fi mi fa K) (n := 20) (As := [.int (nI 1)]) (rest := []) hC (k_X3_no l G cI cZ cJ ma (nI 0) n sw st b r T sc fi mi fa K (nI 1) (by omega) (by omega)) kg_X3_92 kd_yX3_no dX3_pass_17 ⟨Nat.le_of_ble_eq_true rfl, Nat.le_of_ble_eq_true rfl⟩ 0 rfl rfl rfl [0, 1, 2, 3, 4, 5, 6] rfl (by decide) rfl (Nat.le_of_ble_eq_true rfl) ⟨Nat.le_of_ble_eq_true rfl, Nat.le_of_ble_eq_true rfl⟩ (ws2 := fun u5 => wN ma cI (nI 1) n sw st b r T sc fi mi fa K) [] (fun _ => rfl) ([]) (fun _ => rfl) rfl (fun _ => rfl) [ma 0, ma 1, ma 2, ma 3, ma 4, ma 5, ma 6] (fun _ => rfl) rfl rfl rfl (fun r6 u5 h7 => ?_)
  subst h7
  refine z_iret hC hr hlocks () ?_ rfl dX3_pass_20 (by omega) (by omega)
  rfl

set_option maxRecDepth 100000 in
set_option maxHeartbeats 4000000 in
theorem k_X3_shootOff (l : Launch) (G : va_G) (cI cZ cJ : ClassId) (ma : Nat → Nat) (th : Int32) (n : Nat) (sw : Nat → Int32) (st : Nat → Int32) (b : Nat → Int32) (r : Nat → Int32) (T : Nat) (sc : Nat → Int32) (fi : Nat → Int32) (mi : Nat → Int32) (fa : Nat → Int32) (K : Nat → Int32) (hn : n ≤ 6) (hT : T + 200 < 2 ^ 29) (hn0 : 0 < n) (hst : ∀ g, g < n → nI 1 ≤ st g) : MI (Unit) l yX3_shootOff cX3_shootOff 2 3 68 G (tY cI cZ cJ) [.ref (ma 0)] (wN ma cI th n sw st b r T sc fi mi fa K) (fun zr _ => zr = nI (wnF sw st sc fa n)) (fun _ => wN ma cI (nI 0) n sw st b r T (upd sc (wnF sw st sc fa n) (sc (wnF sw st sc fa n) + nI 1)) fi mi (waF sw st sc fa n) K) 0 0 := by
  refine MI_of (by decide) (Nat.le_of_ble_eq_true rfl) [(0, .ref (ma 0))] rfl ?_
  intro p e s m below meth c hC hr hlocks hname
  have hC : Cx p s m _ c cX3_shootOff 2 RX3 G (tY cI cZ cJ) _ := hC
  refine z_aload_n (n := 1) hC dX3_shootOff_0 rfl 0 rfl rfl ?_
  refine gf_X3_32 (v := .int (nI n)) (n := 4) hC 0 rfl rfl dX3_shootOff_1 rfl ?_
  refine z_if_ne (tgt := 13) (n := 7) hC dX3_shootOff_4 (by decide) rfl (fun c1 => ?_) (fun c1 => absurd c1 (nI_ne0 hn0 (by omega)))
  refine z_aload_n (n := 14) hC dX3_shootOff_13 rfl 0 rfl rfl ?_
  refine z_calli (R := { frames := 3, cells := 0, slots := 0, locals := 68 }) (cells := 0) (slots := 0) (ws := wN ma cI th n sw st b r T sc fi mi fa K) (n := 17) (As := []) (rest := []) hC (k_X3_win l G cI cZ cJ ma th n sw st b r T sc fi mi fa K (by omega) (by omega) hn0 hst) kg_X3_105 kd_yX3_win dX3_shootOff_14 ⟨Nat.le_of_ble_eq_true rfl, Nat.le_of_ble_eq_true rfl⟩ 0 rfl rfl rfl [0, 1, 2, 3, 4, 5, 6] rfl (by decide) rfl (Nat.le_of_ble_eq_true rfl) ⟨Nat.le_of_ble_eq_true rfl, Nat.le_of_ble_eq_true rfl⟩ (ws2 := fun u2 => wN ma cI th n sw st b r T sc fi mi (waF sw st sc fa n) K) [] (fun _ => rfl) ([]) (fun _ => rfl) rfl (fun _ => rfl) [ma 0, ma 1, ma 2, ma 3, ma 4, ma 5, ma 6] (fun _ => rfl) rfl rfl rfl (fun r3 u2 h4 => ?_)
  subst h4
  have hw := wnF_lt (sw := sw) (st := st) (sc := sc) (fa := fa) hn0
  refine z_istore_n (lv' := [(1, .int (nI (wnF sw st sc fa n))), (0, .ref (ma 0))]) (n := 18) hC dX3_shootOff_17 rfl (by decide) rfl rfl ?_
  refine z_aload_n (n := 19) hC dX3_shootOff_18 rfl 1 rfl rfl ?_
  refine gf_X3_22 (v := .ref (ma 5)) (n := 22) hC 0 rfl rfl dX3_shootOff_19 rfl ?_
  refine z_iconst (v := nI 1) (n := 23) hC dX3_shootOff_22 (by decide) rfl ?_
  refine z_iload_n (n := 24) hC dX3_shootOff_23 rfl 0 rfl rfl ?_
  refine z_iadd (v := nI (1 + wnF sw st sc fa n)) (n := 25) hC dX3_shootOff_24 (nI_add 1 (wnF sw st sc fa n)) rfl ?_
  refine z_dup2 (n := 26) hC dX3_shootOff_25 rfl rfl rfl ?_
  refine z_iald (v := sc (wnF sw st sc fa n)) (n := 27) hC 5 0 (1 + wnF sw st sc fa n) rfl rfl rfl (by omega) (by decide) dX3_shootOff_26 (nw_sc (by omega)) rfl ?_
  refine z_iconst (v := nI 1) (n := 28) hC dX3_shootOff_27 (by decide) rfl ?_
  refine z_iadd (v := (sc (wnF sw st sc fa n)) + (nI 1)) (n := 29) hC dX3_shootOff_28 rfl rfl ?_
  refine z_iast (ws' := wN ma cI th n sw st b r T (upd sc (wnF sw st sc fa n) ((sc (wnF sw st sc fa n)) + (nI 1))) fi mi (waF sw st sc fa n) K) (n := 30) hC 5 0 (1 + wnF sw st sc fa n) rfl rfl rfl (by omega) (by decide) dX3_shootOff_29 (nwu_sc (by omega)) rfl rfl ?_
  refine z_aload_n (n := 31) hC dX3_shootOff_30 rfl 1 rfl rfl ?_
  refine z_iload_n (n := 32) hC dX3_shootOff_31 rfl 0 rfl rfl ?_
  refine z_calli (R := { frames := 3, cells := 0, slots := 0, locals := 68 }) (cells := 0) (slots := 0) (ws := wN ma cI th n sw st b r T (upd sc (wnF sw st sc fa n) ((sc (wnF sw st sc fa n)) + (nI 1))) fi mi (waF sw st sc fa n) K) (n := 35) (As := [.int (nI (wnF sw st sc fa n))]) (rest := []) hC (k_X3_ok l G cI cZ cJ ma th n sw st b r T (upd sc (wnF sw st sc fa n) ((sc (wnF sw st sc fa n)) + (nI 1))) fi mi (waF sw st sc fa n) K (nI (wnF sw st sc fa n)) (by omega) (by omega)) kg_X3_108 kd_yX3_ok dX3_shootOff_32 ⟨Nat.le_of_ble_eq_true rfl, Nat.le_of_ble_eq_true rfl⟩ 0 rfl rfl rfl [0, 1, 2, 3, 4, 5, 6] rfl (by decide) rfl (Nat.le_of_ble_eq_true rfl) ⟨Nat.le_of_ble_eq_true rfl, Nat.le_of_ble_eq_true rfl⟩ (ws2 := fun u5 => wN ma cI (nI 0) n sw st b r T (upd sc (wnF sw st sc fa n) ((sc (wnF sw st sc fa n)) + (nI 1))) fi mi (waF sw st sc fa n) K) [] (fun _ => rfl) ([]) (fun _ => rfl) rfl (fun _ => rfl) [ma 0, ma 1, ma 2, ma 3, ma 4, ma 5, ma 6] (fun _ => rfl) rfl rfl rfl (fun r6 u5 h7 => ?_)
  subst h7
  refine z_iret hC hr hlocks () ?_ rfl dX3_shootOff_35 (by omega) (by omega)
  rfl

set_option maxRecDepth 100000 in
set_option maxHeartbeats 4000000 in
theorem k_X3_shootOff_x (l : Launch) (G : va_G) (cI cZ cJ : ClassId) (ma : Nat → Nat) (th : Int32) (n : Nat) (sw : Nat → Int32) (st : Nat → Int32) (b : Nat → Int32) (r : Nat → Int32) (T : Nat) (sc : Nat → Int32) (fi : Nat → Int32) (mi : Nat → Int32) (fa : Nat → Int32) (K : Nat → Int32) (hn : n ≤ 6) (hT : T + 200 < 2 ^ 29) (hn0 : n = 0) : MI (Unit) l yX3_shootOff cX3_shootOff 2 1 21 G (tY cI cZ cJ) [.ref (ma 0)] (wN ma cI th n sw st b r T sc fi mi fa K) (fun zr _ => zr = nI 0) (fun _ => wN ma cI (nI 1) n sw st b r T sc fi mi fa K) 0 0 := by
  refine MI_of (by decide) (Nat.le_of_ble_eq_true rfl) [(0, .ref (ma 0))] rfl ?_
  intro p e s m below meth c hC hr hlocks hname
  have hC : Cx p s m _ c cX3_shootOff 2 RX3 G (tY cI cZ cJ) _ := hC
  refine z_aload_n (n := 1) hC dX3_shootOff_0 rfl 0 rfl rfl ?_
  refine gf_X3_32 (v := .int (nI n)) (n := 4) hC 0 rfl rfl dX3_shootOff_1 rfl ?_
  refine z_if_ne (tgt := 13) (n := 7) hC dX3_shootOff_4 (by decide) rfl (fun c1 => absurd (hn0 ▸ rfl) c1) (fun c1 => ?_)
  refine z_aload_n (n := 8) hC dX3_shootOff_7 rfl 0 rfl rfl ?_
  refine z_iconst (v := nI 1) (n := 9) hC dX3_shootOff_8 (by decide) rfl ?_
  refine z_calli (R := { frames := 1, cells := 0, slots := 0, locals := 21 }) (cells := 0) (slots := 0) (ws := wN ma cI th n sw st b r T sc fi mi fa K) (n := 12) (As := [.int (nI 1)]) (rest := []) hC (k_X3_no l G cI cZ cJ ma th n sw st b r T sc fi mi fa K (nI 1) (by omega) (by omega)) kg_X3_92 kd_yX3_no dX3_shootOff_9 ⟨Nat.le_of_ble_eq_true rfl, Nat.le_of_ble_eq_true rfl⟩ 0 rfl rfl rfl [0, 1, 2, 3, 4, 5, 6] rfl (by decide) rfl (Nat.le_of_ble_eq_true rfl) ⟨Nat.le_of_ble_eq_true rfl, Nat.le_of_ble_eq_true rfl⟩ (ws2 := fun u2 => wN ma cI (nI 1) n sw st b r T sc fi mi fa K) [] (fun _ => rfl) ([]) (fun _ => rfl) rfl (fun _ => rfl) [ma 0, ma 1, ma 2, ma 3, ma 4, ma 5, ma 6] (fun _ => rfl) rfl rfl rfl (fun r3 u2 h4 => ?_)
  subst h4
  refine z_iret hC hr hlocks () ?_ rfl dX3_shootOff_12 (by omega) (by omega)
  rfl

set_option maxRecDepth 100000 in
set_option maxHeartbeats 4000000 in
theorem k_X3_angle (l : Launch) (G : va_G) (cI cZ cJ : ClassId) (ma : Nat → Nat) (th : Int32) (n : Nat) (sw : Nat → Int32) (st : Nat → Int32) (b : Nat → Int32) (r : Nat → Int32) (T : Nat) (sc : Nat → Int32) (fi : Nat → Int32) (mi : Nat → Int32) (fa : Nat → Int32) (K : Nat → Int32) (s0 : Nat) (c0 : Nat) (hn : n ≤ 6) (hT : T + 200 < 2 ^ 29) (hs : s0 < 5) (hc0 : c0 < 5) : MI (Unit) l yX3_angle cX3_angle 3 1 22 G (tY cI cZ cJ) [.ref (ma 0), .int (nI s0), .int (nI c0)] (wN ma cI th n sw st b r T sc fi mi fa K) (fun zr _ => zr = angF b r s0 c0) (fun _ => wN ma cI (nI 0) n sw st b r T sc fi mi fa K) 0 0 := by
  refine MI_of (by decide) (Nat.le_of_ble_eq_true rfl) [(0, .ref (ma 0)), (1, .int (nI s0)), (2, .int (nI c0))] rfl ?_
  intro p e s m below meth c hC hr hlocks hname
  have hC : Cx p s m _ c cX3_angle 3 RX3 G (tY cI cZ cJ) _ := hC
  refine z_aload_n (n := 1) hC dX3_angle_0 rfl 0 rfl rfl ?_
  refine z_iconst (v := nI 0) (n := 2) hC dX3_angle_1 (by decide) rfl ?_
  refine pf_X3_28 (ws' := wN ma cI (nI 0) n sw st b r T sc fi mi fa K) (n := 5) hC 0 rfl (Nat.le_of_ble_eq_true rfl) dX3_angle_2 rfl rfl ?_
  refine z_iload_n (n := 6) hC dX3_angle_5 rfl 1 rfl rfl ?_
  refine z_iconst (v := nI 0) (n := 7) hC dX3_angle_6 (by decide) rfl ?_
  refine z_iconst (v := nI 4) (n := 8) hC dX3_angle_7 (by decide) rfl ?_
  refine z_callsb (R := { frames := 1, cells := 0, slots := 0, locals := 22 }) (cells := 0) (slots := 0) (ws := wN ma cI (nI 0) n sw st b r T sc fi mi fa K) (n := 11) (As := [.int (nI s0), .int (nI 0), .int (nI 4)]) (rest := []) hC (k_X3_isFrom_t l G cI cZ cJ (nI s0) (nI 0) (nI 4) (nI_nlt (Nat.zero_le _) (by omega)) (nI_nlt (by omega) (by omega))) kg_X3_35 kd_yX3_isFrom dX3_angle_8 ⟨Nat.le_of_ble_eq_true rfl, Nat.le_of_ble_eq_true rfl⟩ [] rfl (by decide) rfl (Nat.le_of_ble_eq_true rfl) ⟨Nat.le_of_ble_eq_true rfl, Nat.le_of_ble_eq_true rfl⟩ (ws2 := fun u1 => wN ma cI (nI 0) n sw st b r T sc fi mi fa K) [0, 1, 2, 3, 4, 5, 6] (fun _ => rfl) (wN ma cI (nI 0) n sw st b r T sc fi mi fa K) (fun _ => rfl) rfl (fun _ => rfl) [] (fun _ => rfl) rfl rfl rfl (fun r2 u1 h3 => ?_)
  subst h3
  refine z_if_eq_b (tgt := 32) (n := 14) hC true rfl dX3_angle_11 (by decide) rfl (fun c4 => absurd c4 (by decide)) (fun c4 => ?_)
  refine z_iload_n (n := 15) hC dX3_angle_14 rfl 2 rfl rfl ?_
  refine z_iconst (v := nI 0) (n := 16) hC dX3_angle_15 (by decide) rfl ?_
  refine z_iconst (v := nI 4) (n := 17) hC dX3_angle_16 (by decide) rfl ?_
  refine z_callsb (R := { frames := 1, cells := 0, slots := 0, locals := 22 }) (cells := 0) (slots := 0) (ws := wN ma cI (nI 0) n sw st b r T sc fi mi fa K) (n := 20) (As := [.int (nI c0), .int (nI 0), .int (nI 4)]) (rest := []) hC (k_X3_isFrom_t l G cI cZ cJ (nI c0) (nI 0) (nI 4) (nI_nlt (Nat.zero_le _) (by omega)) (nI_nlt (by omega) (by omega))) kg_X3_35 kd_yX3_isFrom dX3_angle_17 ⟨Nat.le_of_ble_eq_true rfl, Nat.le_of_ble_eq_true rfl⟩ [] rfl (by decide) rfl (Nat.le_of_ble_eq_true rfl) ⟨Nat.le_of_ble_eq_true rfl, Nat.le_of_ble_eq_true rfl⟩ (ws2 := fun u5 => wN ma cI (nI 0) n sw st b r T sc fi mi fa K) [0, 1, 2, 3, 4, 5, 6] (fun _ => rfl) (wN ma cI (nI 0) n sw st b r T sc fi mi fa K) (fun _ => rfl) rfl (fun _ => rfl) [] (fun _ => rfl) rfl rfl rfl (fun r6 u5 h7 => ?_)
  subst h7
  refine z_if_eq_b (tgt := 32) (n := 23) hC true rfl dX3_angle_20 (by decide) rfl (fun c8 => absurd c8 (by decide)) (fun c8 => ?_)
  refine z_aload_n (n := 24) hC dX3_angle_23 rfl 0 rfl rfl ?_
  refine z_iload_n (n := 25) hC dX3_angle_24 rfl 1 rfl rfl ?_
  refine z_iload_n (n := 26) hC dX3_angle_25 rfl 2 rfl rfl ?_
  refine z_calli (R := { frames := 1, cells := 0, slots := 0, locals := 22 }) (cells := 0) (slots := 0) (ws := wN ma cI (nI 0) n sw st b r T sc fi mi fa K) (n := 29) (As := [.int (nI s0), .int (nI c0)]) (rest := []) hC (k_X3_at l G cI cZ cJ ma (nI 0) n sw st b r T sc fi mi fa K s0 c0 (by omega) (by omega) (by omega)) kg_X3_53 kd_yX3_at dX3_angle_26 ⟨Nat.le_of_ble_eq_true rfl, Nat.le_of_ble_eq_true rfl⟩ 0 rfl rfl rfl [0, 1, 2, 3, 4, 5, 6] rfl (by decide) rfl (Nat.le_of_ble_eq_true rfl) ⟨Nat.le_of_ble_eq_true rfl, Nat.le_of_ble_eq_true rfl⟩ (ws2 := fun u9 => wN ma cI (nI 0) n sw st b r T sc fi mi fa K) [] (fun _ => rfl) ([]) (fun _ => rfl) rfl (fun _ => rfl) [ma 0, ma 1, ma 2, ma 3, ma 4, ma 5, ma 6] (fun _ => rfl) rfl rfl rfl (fun r10 u9 h11 => ?_)
  subst h11
  refine z_goto (n := 37) hC dX3_angle_29 (by decide) ?_
  refine z_iret hC hr hlocks () ?_ rfl dX3_angle_37 (by omega) (by omega)
  rfl

set_option maxRecDepth 100000 in
set_option maxHeartbeats 4000000 in
theorem k_X3_angle_xa (l : Launch) (G : va_G) (cI cZ cJ : ClassId) (ma : Nat → Nat) (th : Int32) (n : Nat) (sw : Nat → Int32) (st : Nat → Int32) (b : Nat → Int32) (r : Nat → Int32) (T : Nat) (sc : Nat → Int32) (fi : Nat → Int32) (mi : Nat → Int32) (fa : Nat → Int32) (K : Nat → Int32) (x : Int32) (y : Int32) (hn : n ≤ 6) (hT : T + 200 < 2 ^ 29) (hb : x < 0 ∨ nI 5 ≤ x) : MI (Unit) l yX3_angle cX3_angle 3 1 22 G (tY cI cZ cJ) [.ref (ma 0), .int x, .int y] (wN ma cI th n sw st b r T sc fi mi fa K) (fun zr _ => zr = nI 0) (fun _ => wN ma cI (nI 1) n sw st b r T sc fi mi fa K) 0 0 := by
  refine MI_of (by decide) (Nat.le_of_ble_eq_true rfl) [(0, .ref (ma 0)), (1, .int x), (2, .int y)] rfl ?_
  intro p e s m below meth c hC hr hlocks hname
  have hC : Cx p s m _ c cX3_angle 3 RX3 G (tY cI cZ cJ) _ := hC
  refine z_aload_n (n := 1) hC dX3_angle_0 rfl 0 rfl rfl ?_
  refine z_iconst (v := nI 0) (n := 2) hC dX3_angle_1 (by decide) rfl ?_
  refine pf_X3_28 (ws' := wN ma cI (nI 0) n sw st b r T sc fi mi fa K) (n := 5) hC 0 rfl (Nat.le_of_ble_eq_true rfl) dX3_angle_2 rfl rfl ?_
  refine z_iload_n (n := 6) hC dX3_angle_5 rfl 1 rfl rfl ?_
  refine z_iconst (v := nI 0) (n := 7) hC dX3_angle_6 (by decide) rfl ?_
  refine z_iconst (v := nI 4) (n := 8) hC dX3_angle_7 (by decide) rfl ?_
  refine z_callsb (R := { frames := 1, cells := 0, slots := 0, locals := 22 }) (cells := 0) (slots := 0) (ws := wN ma cI (nI 0) n sw st b r T sc fi mi fa K) (n := 11) (As := [.int x, .int (nI 0), .int (nI 4)]) (rest := []) hC (k_X3_isFrom_f l G cI cZ cJ x (nI 0) (nI 4) (bad_5 hb)) kg_X3_35 kd_yX3_isFrom dX3_angle_8 ⟨Nat.le_of_ble_eq_true rfl, Nat.le_of_ble_eq_true rfl⟩ [] rfl (by decide) rfl (Nat.le_of_ble_eq_true rfl) ⟨Nat.le_of_ble_eq_true rfl, Nat.le_of_ble_eq_true rfl⟩ (ws2 := fun u1 => wN ma cI (nI 0) n sw st b r T sc fi mi fa K) [0, 1, 2, 3, 4, 5, 6] (fun _ => rfl) (wN ma cI (nI 0) n sw st b r T sc fi mi fa K) (fun _ => rfl) rfl (fun _ => rfl) [] (fun _ => rfl) rfl rfl rfl (fun r2 u1 h3 => ?_)
  subst h3
  refine z_if_eq_b (tgt := 32) (n := 14) hC false rfl dX3_angle_11 (by decide) rfl (fun c4 => ?_) (fun c4 => absurd c4 (by decide))
  refine z_aload_n (n := 33) hC dX3_angle_32 rfl 0 rfl rfl ?_
  refine z_iconst (v := nI 1) (n := 34) hC dX3_angle_33 (by decide) rfl ?_
  refine z_calli (R := { frames := 1, cells := 0, slots := 0, locals := 22 }) (cells := 0) (slots := 0) (ws := wN ma cI (nI 0) n sw st b r T sc fi mi fa K) (n := 37) (As := [.int (nI 1)]) (rest := []) hC (k_X3_no l G cI cZ cJ ma (nI 0) n sw st b r T sc fi mi fa K (nI 1) (by omega) (by omega)) kg_X3_92 kd_yX3_no dX3_angle_34 ⟨Nat.le_of_ble_eq_true rfl, Nat.le_of_ble_eq_true rfl⟩ 0 rfl rfl rfl [0, 1, 2, 3, 4, 5, 6] rfl (by decide) rfl (Nat.le_of_ble_eq_true rfl) ⟨Nat.le_of_ble_eq_true rfl, Nat.le_of_ble_eq_true rfl⟩ (ws2 := fun u5 => wN ma cI (nI 1) n sw st b r T sc fi mi fa K) [] (fun _ => rfl) ([]) (fun _ => rfl) rfl (fun _ => rfl) [ma 0, ma 1, ma 2, ma 3, ma 4, ma 5, ma 6] (fun _ => rfl) rfl rfl rfl (fun r6 u5 h7 => ?_)
  subst h7
  refine z_iret hC hr hlocks () ?_ rfl dX3_angle_37 (by omega) (by omega)
  rfl

set_option maxRecDepth 100000 in
set_option maxHeartbeats 4000000 in
theorem k_X3_angle_xb (l : Launch) (G : va_G) (cI cZ cJ : ClassId) (ma : Nat → Nat) (th : Int32) (n : Nat) (sw : Nat → Int32) (st : Nat → Int32) (b : Nat → Int32) (r : Nat → Int32) (T : Nat) (sc : Nat → Int32) (fi : Nat → Int32) (mi : Nat → Int32) (fa : Nat → Int32) (K : Nat → Int32) (s0 : Nat) (x : Int32) (hn : n ≤ 6) (hT : T + 200 < 2 ^ 29) (hs : s0 < 5) (hb : x < 0 ∨ nI 5 ≤ x) : MI (Unit) l yX3_angle cX3_angle 3 1 22 G (tY cI cZ cJ) [.ref (ma 0), .int (nI s0), .int x] (wN ma cI th n sw st b r T sc fi mi fa K) (fun zr _ => zr = nI 0) (fun _ => wN ma cI (nI 1) n sw st b r T sc fi mi fa K) 0 0 := by
  refine MI_of (by decide) (Nat.le_of_ble_eq_true rfl) [(0, .ref (ma 0)), (1, .int (nI s0)), (2, .int x)] rfl ?_
  intro p e s m below meth c hC hr hlocks hname
  have hC : Cx p s m _ c cX3_angle 3 RX3 G (tY cI cZ cJ) _ := hC
  refine z_aload_n (n := 1) hC dX3_angle_0 rfl 0 rfl rfl ?_
  refine z_iconst (v := nI 0) (n := 2) hC dX3_angle_1 (by decide) rfl ?_
  refine pf_X3_28 (ws' := wN ma cI (nI 0) n sw st b r T sc fi mi fa K) (n := 5) hC 0 rfl (Nat.le_of_ble_eq_true rfl) dX3_angle_2 rfl rfl ?_
  refine z_iload_n (n := 6) hC dX3_angle_5 rfl 1 rfl rfl ?_
  refine z_iconst (v := nI 0) (n := 7) hC dX3_angle_6 (by decide) rfl ?_
  refine z_iconst (v := nI 4) (n := 8) hC dX3_angle_7 (by decide) rfl ?_
  refine z_callsb (R := { frames := 1, cells := 0, slots := 0, locals := 22 }) (cells := 0) (slots := 0) (ws := wN ma cI (nI 0) n sw st b r T sc fi mi fa K) (n := 11) (As := [.int (nI s0), .int (nI 0), .int (nI 4)]) (rest := []) hC (k_X3_isFrom_t l G cI cZ cJ (nI s0) (nI 0) (nI 4) (nI_nlt (Nat.zero_le _) (by omega)) (nI_nlt (by omega) (by omega))) kg_X3_35 kd_yX3_isFrom dX3_angle_8 ⟨Nat.le_of_ble_eq_true rfl, Nat.le_of_ble_eq_true rfl⟩ [] rfl (by decide) rfl (Nat.le_of_ble_eq_true rfl) ⟨Nat.le_of_ble_eq_true rfl, Nat.le_of_ble_eq_true rfl⟩ (ws2 := fun u1 => wN ma cI (nI 0) n sw st b r T sc fi mi fa K) [0, 1, 2, 3, 4, 5, 6] (fun _ => rfl) (wN ma cI (nI 0) n sw st b r T sc fi mi fa K) (fun _ => rfl) rfl (fun _ => rfl) [] (fun _ => rfl) rfl rfl rfl (fun r2 u1 h3 => ?_)
  subst h3
  refine z_if_eq_b (tgt := 32) (n := 14) hC true rfl dX3_angle_11 (by decide) rfl (fun c4 => absurd c4 (by decide)) (fun c4 => ?_)
  refine z_iload_n (n := 15) hC dX3_angle_14 rfl 2 rfl rfl ?_
  refine z_iconst (v := nI 0) (n := 16) hC dX3_angle_15 (by decide) rfl ?_
  refine z_iconst (v := nI 4) (n := 17) hC dX3_angle_16 (by decide) rfl ?_
  refine z_callsb (R := { frames := 1, cells := 0, slots := 0, locals := 22 }) (cells := 0) (slots := 0) (ws := wN ma cI (nI 0) n sw st b r T sc fi mi fa K) (n := 20) (As := [.int x, .int (nI 0), .int (nI 4)]) (rest := []) hC (k_X3_isFrom_f l G cI cZ cJ x (nI 0) (nI 4) (bad_5 hb)) kg_X3_35 kd_yX3_isFrom dX3_angle_17 ⟨Nat.le_of_ble_eq_true rfl, Nat.le_of_ble_eq_true rfl⟩ [] rfl (by decide) rfl (Nat.le_of_ble_eq_true rfl) ⟨Nat.le_of_ble_eq_true rfl, Nat.le_of_ble_eq_true rfl⟩ (ws2 := fun u5 => wN ma cI (nI 0) n sw st b r T sc fi mi fa K) [0, 1, 2, 3, 4, 5, 6] (fun _ => rfl) (wN ma cI (nI 0) n sw st b r T sc fi mi fa K) (fun _ => rfl) rfl (fun _ => rfl) [] (fun _ => rfl) rfl rfl rfl (fun r6 u5 h7 => ?_)
  subst h7
  refine z_if_eq_b (tgt := 32) (n := 23) hC false rfl dX3_angle_20 (by decide) rfl (fun c8 => ?_) (fun c8 => absurd c8 (by decide))
  refine z_aload_n (n := 33) hC dX3_angle_32 rfl 0 rfl rfl ?_
  refine z_iconst (v := nI 1) (n := 34) hC dX3_angle_33 (by decide) rfl ?_
  refine z_calli (R := { frames := 1, cells := 0, slots := 0, locals := 22 }) (cells := 0) (slots := 0) (ws := wN ma cI (nI 0) n sw st b r T sc fi mi fa K) (n := 37) (As := [.int (nI 1)]) (rest := []) hC (k_X3_no l G cI cZ cJ ma (nI 0) n sw st b r T sc fi mi fa K (nI 1) (by omega) (by omega)) kg_X3_92 kd_yX3_no dX3_angle_34 ⟨Nat.le_of_ble_eq_true rfl, Nat.le_of_ble_eq_true rfl⟩ 0 rfl rfl rfl [0, 1, 2, 3, 4, 5, 6] rfl (by decide) rfl (Nat.le_of_ble_eq_true rfl) ⟨Nat.le_of_ble_eq_true rfl, Nat.le_of_ble_eq_true rfl⟩ (ws2 := fun u9 => wN ma cI (nI 1) n sw st b r T sc fi mi fa K) [] (fun _ => rfl) ([]) (fun _ => rfl) rfl (fun _ => rfl) [ma 0, ma 1, ma 2, ma 3, ma 4, ma 5, ma 6] (fun _ => rfl) rfl rfl rfl (fun r10 u9 h11 => ?_)
  subst h11
  refine z_iret hC hr hlocks () ?_ rfl dX3_angle_37 (by omega) (by omega)
  rfl

set_option maxRecDepth 100000 in
set_option maxHeartbeats 4000000 in
theorem k_X3_hardest (l : Launch) (G : va_G) (cI cZ cJ : ClassId) (ma : Nat → Nat) (th : Int32) (n : Nat) (sw : Nat → Int32) (st : Nat → Int32) (b : Nat → Int32) (r : Nat → Int32) (T : Nat) (sc : Nat → Int32) (fi : Nat → Int32) (mi : Nat → Int32) (fa : Nat → Int32) (K : Nat → Int32) (s0 : Nat) (hn : n ≤ 6) (hT : T + 200 < 2 ^ 29) (hs : s0 < 5) : MI (Unit) l yX3_hardest cX3_hardest 4 1 22 G (tY cI cZ cJ) [.ref (ma 0), .int (nI s0)] (wN ma cI th n sw st b r T sc fi mi fa K) (fun zr _ => zr = nI (haF b r s0 4)) (fun _ => wN ma cI th n sw st b r T sc fi mi fa K) 0 0 := by
  refine MI_of (by decide) (Nat.le_of_ble_eq_true rfl) [(0, .ref (ma 0)), (1, .int (nI s0))] rfl ?_
  intro p e s m below meth c hC hr hlocks hname
  have hC : Cx p s m _ c cX3_hardest 4 RX3 G (tY cI cZ cJ) _ := hC
  refine z_iconst (v := nI 0) (n := 1) hC dX3_hardest_0 (by decide) rfl ?_
  refine z_istore_n (lv' := [(2, .int (nI 0)), (0, .ref (ma 0)), (1, .int (nI s0))]) (n := 2) hC dX3_hardest_1 rfl (by decide) rfl rfl ?_
  refine z_iconst (v := nI 1) (n := 3) hC dX3_hardest_2 (by decide) rfl ?_
  refine z_istore_n (lv' := [(3, .int (nI 1)), (2, .int (nI 0)), (0, .ref (ma 0)), (1, .int (nI s0))]) (n := 4) hC dX3_hardest_3 rfl (by decide) rfl rfl ?_
  refine z_lv [2, 3, 1, 0] (lv' := [(0, .ref (ma 0)), (1, .int (nI s0)), (2, .int (nI (haF b r s0 0))), (3, .int (nI (0 + 1)))]) rfl ?_
  refine z_loop 4 0 (fun i => wN ma cI th n sw st b r T sc fi mi fa K) (fun i => [(0, .ref (ma 0)), (1, .int (nI s0)), (2, .int (nI (haF b r s0 i))), (3, .int (nI (i + 1)))]) (by omega) rfl rfl (fun i hi0 hi1 ih => ?_)
  refine z_iload_n (n := 5) hC dX3_hardest_4 rfl 3 rfl rfl ?_
  refine z_iconst (v := nI 5) (n := 6) hC dX3_hardest_5 (by decide) rfl ?_
  refine z_icmp_ge_n (tgt := 38) (n := 9) hC (i + 1) 5 rfl rfl (by omega) (by omega) dX3_hardest_6 (by decide) rfl (fun c1 => ?_) (fun c1 => ?_)
  · obtain rfl : 4 = i := by omega
    refine z_iload_n (n := 39) hC dX3_hardest_38 rfl 2 rfl rfl ?_
    refine z_iret hC hr hlocks () ?_ rfl dX3_hardest_39 (by omega) (by omega)
    rfl
  · refine z_aload_n (n := 10) hC dX3_hardest_9 rfl 0 rfl rfl ?_
    refine z_iload_n (n := 11) hC dX3_hardest_10 rfl 1 rfl rfl ?_
    refine z_iload_n (n := 12) hC dX3_hardest_11 rfl 3 rfl rfl ?_
    refine z_calli (R := { frames := 1, cells := 0, slots := 0, locals := 22 }) (cells := 0) (slots := 0) (ws := wN ma cI th n sw st b r T sc fi mi fa K) (n := 15) (As := [.int (nI s0), .int (nI (i + 1))]) (rest := []) hC (k_X3_at l G cI cZ cJ ma th n sw st b r T sc fi mi fa K s0 (i + 1) (by omega) (by omega) (by omega)) kg_X3_53 kd_yX3_at dX3_hardest_12 ⟨Nat.le_of_ble_eq_true rfl, Nat.le_of_ble_eq_true rfl⟩ 0 rfl rfl rfl [0, 1, 2, 3, 4, 5, 6] rfl (by decide) rfl (Nat.le_of_ble_eq_true rfl) ⟨Nat.le_of_ble_eq_true rfl, Nat.le_of_ble_eq_true rfl⟩ (ws2 := fun u2 => wN ma cI th n sw st b r T sc fi mi fa K) [] (fun _ => rfl) ([]) (fun _ => rfl) rfl (fun _ => rfl) [ma 0, ma 1, ma 2, ma 3, ma 4, ma 5, ma 6] (fun _ => rfl) rfl rfl rfl (fun r3 u2 h4 => ?_)
    subst h4
    refine z_mabs (v := absF (angF b r s0 (i + 1))) (n := 18) hC q454 q637 q173 q639 (by decide) (Nat.le_of_ble_eq_true rfl) (by omega) (by omega) dX3_hardest_15 rfl rfl ?_
    refine z_aload_n (n := 19) hC dX3_hardest_18 rfl 0 rfl rfl ?_
    refine z_iload_n (n := 20) hC dX3_hardest_19 rfl 1 rfl rfl ?_
    refine z_iload_n (n := 21) hC dX3_hardest_20 rfl 2 rfl rfl ?_
    refine z_calli (R := { frames := 1, cells := 0, slots := 0, locals := 22 }) (cells := 0) (slots := 0) (ws := wN ma cI th n sw st b r T sc fi mi fa K) (n := 24) (As := [.int (nI s0), .int (nI (haF b r s0 i))]) (rest := [.int (absF (angF b r s0 (i + 1)))]) hC (k_X3_at l G cI cZ cJ ma th n sw st b r T sc fi mi fa K s0 (haF b r s0 i) (by omega) (by omega) (by omega)) kg_X3_53 kd_yX3_at dX3_hardest_21 ⟨Nat.le_of_ble_eq_true rfl, Nat.le_of_ble_eq_true rfl⟩ 0 rfl rfl rfl [0, 1, 2, 3, 4, 5, 6] rfl (by decide) rfl (Nat.le_of_ble_eq_true rfl) ⟨Nat.le_of_ble_eq_true rfl, Nat.le_of_ble_eq_true rfl⟩ (ws2 := fun u5 => wN ma cI th n sw st b r T sc fi mi fa K) [] (fun _ => rfl) ([]) (fun _ => rfl) rfl (fun _ => rfl) [ma 0, ma 1, ma 2, ma 3, ma 4, ma 5, ma 6] (fun _ => rfl) rfl rfl rfl (fun r6 u5 h7 => ?_)
    subst h7
    refine z_mabs (v := absF (angF b r s0 (haF b r s0 i))) (n := 27) hC q454 q637 q173 q639 (by decide) (Nat.le_of_ble_eq_true rfl) (by omega) (by omega) dX3_hardest_24 rfl rfl ?_
    refine z_icmp_le (tgt := 32) (n := 30) hC dX3_hardest_27 (by decide) rfl (fun c8 => ?_) (fun c8 => ?_)
    · refine z_iinc (k0 := 3) (v := nI (i + 1 + 1)) (lv' := [(3, .int (nI (i + 1 + 1))), (0, .ref (ma 0)), (1, .int (nI s0)), (2, .int (nI (haF b r s0 i)))]) (n := 35) hC dX3_hardest_32 rfl (nI_add (i + 1) 1) (by decide) rfl rfl ?_
      refine z_goto (n := 4) hC dX3_hardest_35 (by decide) ?_
      refine z_lv [1, 2, 3, 0] (lv' := [(0, .ref (ma 0)), (1, .int (nI s0)), (2, .int (nI (haF b r s0 i))), (3, .int (nI (i + 1 + 1)))]) rfl ?_
      refine z_leq (lv' := [(0, .ref (ma 0)), (1, .int (nI s0)), (2, .int (nI (haF b r s0 (i + 1)))), (3, .int (nI (i + 1 + 1)))]) (by simp only [haF, if_pos c1, if_pos c8]) ?_
      exact ih (i + 1) (by omega) (by omega)
    · refine z_iload_n (n := 31) hC dX3_hardest_30 rfl 3 rfl rfl ?_
      refine z_istore_n (lv' := [(2, .int (nI (i + 1))), (0, .ref (ma 0)), (1, .int (nI s0)), (3, .int (nI (i + 1)))]) (n := 32) hC dX3_hardest_31 rfl (by decide) rfl rfl ?_
      refine z_iinc (k0 := 3) (v := nI (i + 1 + 1)) (lv' := [(3, .int (nI (i + 1 + 1))), (2, .int (nI (i + 1))), (0, .ref (ma 0)), (1, .int (nI s0))]) (n := 35) hC dX3_hardest_32 rfl (nI_add (i + 1) 1) (by decide) rfl rfl ?_
      refine z_goto (n := 4) hC dX3_hardest_35 (by decide) ?_
      refine z_lv [2, 3, 1, 0] (lv' := [(0, .ref (ma 0)), (1, .int (nI s0)), (2, .int (nI (i + 1))), (3, .int (nI (i + 1 + 1)))]) rfl ?_
      refine z_leq (lv' := [(0, .ref (ma 0)), (1, .int (nI s0)), (2, .int (nI (haF b r s0 (i + 1)))), (3, .int (nI (i + 1 + 1)))]) (by simp only [haF, if_pos c1, if_neg c8]) ?_
      exact ih (i + 1) (by omega) (by omega)

set_option maxRecDepth 100000 in
set_option maxHeartbeats 4000000 in
theorem k_X3_hardestClay (l : Launch) (G : va_G) (cI cZ cJ : ClassId) (ma : Nat → Nat) (th : Int32) (n : Nat) (sw : Nat → Int32) (st : Nat → Int32) (b : Nat → Int32) (r : Nat → Int32) (T : Nat) (sc : Nat → Int32) (fi : Nat → Int32) (mi : Nat → Int32) (fa : Nat → Int32) (K : Nat → Int32) (s0 : Nat) (hn : n ≤ 6) (hT : T + 200 < 2 ^ 29) (hs : s0 < 5) : MI (Unit) l yX3_hardestClay cX3_hardestClay 2 2 45 G (tY cI cZ cJ) [.ref (ma 0), .int (nI s0)] (wN ma cI th n sw st b r T sc fi mi fa K) (fun zr _ => zr = nI (haF b r s0 4)) (fun _ => wN ma cI (nI 0) n sw st b r T sc fi mi fa K) 0 0 := by
  refine MI_of (by decide) (Nat.le_of_ble_eq_true rfl) [(0, .ref (ma 0)), (1, .int (nI s0))] rfl ?_
  intro p e s m below meth c hC hr hlocks hname
  have hC : Cx p s m _ c cX3_hardestClay 2 RX3 G (tY cI cZ cJ) _ := hC
  refine z_aload_n (n := 1) hC dX3_hardestClay_0 rfl 0 rfl rfl ?_
  refine z_iconst (v := nI 0) (n := 2) hC dX3_hardestClay_1 (by decide) rfl ?_
  refine pf_X3_28 (ws' := wN ma cI (nI 0) n sw st b r T sc fi mi fa K) (n := 5) hC 0 rfl (Nat.le_of_ble_eq_true rfl) dX3_hardestClay_2 rfl rfl ?_
  refine z_iload_n (n := 6) hC dX3_hardestClay_5 rfl 1 rfl rfl ?_
  refine z_iconst (v := nI 0) (n := 7) hC dX3_hardestClay_6 (by decide) rfl ?_
  refine z_iconst (v := nI 4) (n := 8) hC dX3_hardestClay_7 (by decide) rfl ?_
  refine z_callsb (R := { frames := 2, cells := 0, slots := 0, locals := 45 }) (cells := 0) (slots := 0) (ws := wN ma cI (nI 0) n sw st b r T sc fi mi fa K) (n := 11) (As := [.int (nI s0), .int (nI 0), .int (nI 4)]) (rest := []) hC (k_X3_isFrom_t l G cI cZ cJ (nI s0) (nI 0) (nI 4) (nI_nlt (Nat.zero_le _) (by omega)) (nI_nlt (by omega) (by omega))) kg_X3_35 kd_yX3_isFrom dX3_hardestClay_8 ⟨Nat.le_of_ble_eq_true rfl, Nat.le_of_ble_eq_true rfl⟩ [] rfl (by decide) rfl (Nat.le_of_ble_eq_true rfl) ⟨Nat.le_of_ble_eq_true rfl, Nat.le_of_ble_eq_true rfl⟩ (ws2 := fun u1 => wN ma cI (nI 0) n sw st b r T sc fi mi fa K) [0, 1, 2, 3, 4, 5, 6] (fun _ => rfl) (wN ma cI (nI 0) n sw st b r T sc fi mi fa K) (fun _ => rfl) rfl (fun _ => rfl) [] (fun _ => rfl) rfl rfl rfl (fun r2 u1 h3 => ?_)
  subst h3
  refine z_if_eq_b (tgt := 22) (n := 14) hC true rfl dX3_hardestClay_11 (by decide) rfl (fun c4 => absurd c4 (by decide)) (fun c4 => ?_)
  refine z_aload_n (n := 15) hC dX3_hardestClay_14 rfl 0 rfl rfl ?_
  refine z_iload_n (n := 16) hC dX3_hardestClay_15 rfl 1 rfl rfl ?_
  refine z_calli (R := { frames := 2, cells := 0, slots := 0, locals := 45 }) (cells := 0) (slots := 0) (ws := wN ma cI (nI 0) n sw st b r T sc fi mi fa K) (n := 19) (As := [.int (nI s0)]) (rest := []) hC (k_X3_hardest l G cI cZ cJ ma (nI 0) n sw st b r T sc fi mi fa K s0 (by omega) (by omega) (by omega)) kg_X3_111 kd_yX3_hardest dX3_hardestClay_16 ⟨Nat.le_of_ble_eq_true rfl, Nat.le_of_ble_eq_true rfl⟩ 0 rfl rfl rfl [0, 1, 2, 3, 4, 5, 6] rfl (by decide) rfl (Nat.le_of_ble_eq_true rfl) ⟨Nat.le_of_ble_eq_true rfl, Nat.le_of_ble_eq_true rfl⟩ (ws2 := fun u5 => wN ma cI (nI 0) n sw st b r T sc fi mi fa K) [] (fun _ => rfl) ([]) (fun _ => rfl) rfl (fun _ => rfl) [ma 0, ma 1, ma 2, ma 3, ma 4, ma 5, ma 6] (fun _ => rfl) rfl rfl rfl (fun r6 u5 h7 => ?_)
  subst h7
  refine z_goto (n := 27) hC dX3_hardestClay_19 (by decide) ?_
  refine z_iret hC hr hlocks () ?_ rfl dX3_hardestClay_27 (by omega) (by omega)
  rfl

set_option maxRecDepth 100000 in
set_option maxHeartbeats 4000000 in
theorem k_X3_hardestClay_x (l : Launch) (G : va_G) (cI cZ cJ : ClassId) (ma : Nat → Nat) (th : Int32) (n : Nat) (sw : Nat → Int32) (st : Nat → Int32) (b : Nat → Int32) (r : Nat → Int32) (T : Nat) (sc : Nat → Int32) (fi : Nat → Int32) (mi : Nat → Int32) (fa : Nat → Int32) (K : Nat → Int32) (x : Int32) (hn : n ≤ 6) (hT : T + 200 < 2 ^ 29) (hb : x < 0 ∨ nI 5 ≤ x) : MI (Unit) l yX3_hardestClay cX3_hardestClay 2 1 22 G (tY cI cZ cJ) [.ref (ma 0), .int x] (wN ma cI th n sw st b r T sc fi mi fa K) (fun zr _ => zr = nI 0) (fun _ => wN ma cI (nI 1) n sw st b r T sc fi mi fa K) 0 0 := by
  refine MI_of (by decide) (Nat.le_of_ble_eq_true rfl) [(0, .ref (ma 0)), (1, .int x)] rfl ?_
  intro p e s m below meth c hC hr hlocks hname
  have hC : Cx p s m _ c cX3_hardestClay 2 RX3 G (tY cI cZ cJ) _ := hC
  refine z_aload_n (n := 1) hC dX3_hardestClay_0 rfl 0 rfl rfl ?_
  refine z_iconst (v := nI 0) (n := 2) hC dX3_hardestClay_1 (by decide) rfl ?_
  refine pf_X3_28 (ws' := wN ma cI (nI 0) n sw st b r T sc fi mi fa K) (n := 5) hC 0 rfl (Nat.le_of_ble_eq_true rfl) dX3_hardestClay_2 rfl rfl ?_
  refine z_iload_n (n := 6) hC dX3_hardestClay_5 rfl 1 rfl rfl ?_
  refine z_iconst (v := nI 0) (n := 7) hC dX3_hardestClay_6 (by decide) rfl ?_
  refine z_iconst (v := nI 4) (n := 8) hC dX3_hardestClay_7 (by decide) rfl ?_
  refine z_callsb (R := { frames := 1, cells := 0, slots := 0, locals := 22 }) (cells := 0) (slots := 0) (ws := wN ma cI (nI 0) n sw st b r T sc fi mi fa K) (n := 11) (As := [.int x, .int (nI 0), .int (nI 4)]) (rest := []) hC (k_X3_isFrom_f l G cI cZ cJ x (nI 0) (nI 4) (bad_5 hb)) kg_X3_35 kd_yX3_isFrom dX3_hardestClay_8 ⟨Nat.le_of_ble_eq_true rfl, Nat.le_of_ble_eq_true rfl⟩ [] rfl (by decide) rfl (Nat.le_of_ble_eq_true rfl) ⟨Nat.le_of_ble_eq_true rfl, Nat.le_of_ble_eq_true rfl⟩ (ws2 := fun u1 => wN ma cI (nI 0) n sw st b r T sc fi mi fa K) [0, 1, 2, 3, 4, 5, 6] (fun _ => rfl) (wN ma cI (nI 0) n sw st b r T sc fi mi fa K) (fun _ => rfl) rfl (fun _ => rfl) [] (fun _ => rfl) rfl rfl rfl (fun r2 u1 h3 => ?_)
  subst h3
  refine z_if_eq_b (tgt := 22) (n := 14) hC false rfl dX3_hardestClay_11 (by decide) rfl (fun c4 => ?_) (fun c4 => absurd c4 (by decide))
  refine z_aload_n (n := 23) hC dX3_hardestClay_22 rfl 0 rfl rfl ?_
  refine z_iconst (v := nI 1) (n := 24) hC dX3_hardestClay_23 (by decide) rfl ?_
  refine z_calli (R := { frames := 1, cells := 0, slots := 0, locals := 22 }) (cells := 0) (slots := 0) (ws := wN ma cI (nI 0) n sw st b r T sc fi mi fa K) (n := 27) (As := [.int (nI 1)]) (rest := []) hC (k_X3_no l G cI cZ cJ ma (nI 0) n sw st b r T sc fi mi fa K (nI 1) (by omega) (by omega)) kg_X3_92 kd_yX3_no dX3_hardestClay_24 ⟨Nat.le_of_ble_eq_true rfl, Nat.le_of_ble_eq_true rfl⟩ 0 rfl rfl rfl [0, 1, 2, 3, 4, 5, 6] rfl (by decide) rfl (Nat.le_of_ble_eq_true rfl) ⟨Nat.le_of_ble_eq_true rfl, Nat.le_of_ble_eq_true rfl⟩ (ws2 := fun u5 => wN ma cI (nI 1) n sw st b r T sc fi mi fa K) [] (fun _ => rfl) ([]) (fun _ => rfl) rfl (fun _ => rfl) [ma 0, ma 1, ma 2, ma 3, ma 4, ma 5, ma 6] (fun _ => rfl) rfl rfl rfl (fun r6 u5 h7 => ?_)
  subst h7
  refine z_iret hC hr hlocks () ?_ rfl dX3_hardestClay_27 (by omega) (by omega)
  rfl
