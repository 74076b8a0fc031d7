set_option maxRecDepth 100000 in
set_option maxHeartbeats 4000000 in
theorem k_X3_firstIn (l : Launch) (G : va_G) (cI cZ cJ : ClassId) (ma : Nat → Nat) (th : Int32) (n : Nat) (sw : Nat → Int32) (st : Nat → Int32) (b : Nat → Int32) (r : Nat → Int32) (T : Nat) (sc : Nat → Int32) (fi : Nat → Int32) (mi : Nat → Int32) (fa : Nat → Int32) (K : Nat → Int32) (k : Nat) (hn : n ≤ 6) (hT : T + 200 < 2 ^ 29) (hk : k ≤ 50) (hst : ∀ g, g < n → nI 1 ≤ st g) : MI (Unit) l yX3_firstIn cX3_firstIn 3 6 129 G (tY cI cZ cJ) [.ref (ma 0), .int (nI k)] (wN ma cI th n sw st b r T sc fi mi fa K) (fun zr _ => zr = ldF (plS sw st b r sc fi mi fa T k) n) (fun _ => wN ma cI th n sw st b r T sc fi mi fa (va_cpy (nowF T sc fi mi fa) K 0 0 25)) 0 0 := by
  refine MI_of (by decide) (Nat.le_of_ble_eq_true rfl) [(0, .ref (ma 0)), (1, .int (nI k))] rfl ?_
  intro p e s m below meth c hC hr hlocks hname
  have hC : Cx p s m _ c cX3_firstIn 3 RX3 G (tY cI cZ cJ) _ := hC
  refine z_aload_n (n := 1) hC dX3_firstIn_0 rfl 0 rfl rfl ?_
  refine z_callv (R := { frames := 6, cells := 0, slots := 0, locals := 129 }) (cells := 0) (slots := 0) (ws := wN ma cI th n sw st b r T sc fi mi fa K) (n := 4) (As := []) (rest := []) hC (k_X3_keep l G cI cZ cJ ma th n sw st b r T sc fi mi fa K (by omega) (by omega)) kg_X3_120 kd_yX3_keep dX3_firstIn_1 ⟨Nat.le_of_ble_eq_true rfl, Nat.le_of_ble_eq_true rfl⟩ 0 rfl rfl rfl [0, 1, 2, 3, 4, 5, 6] rfl (by decide) rfl (Nat.le_of_ble_eq_true rfl) ⟨Nat.le_of_ble_eq_true rfl, Nat.le_of_ble_eq_true rfl⟩ (ws2 := fun u1 => wN ma cI th n sw st b r T sc fi mi fa (va_cpy (nowF T sc fi mi fa) K 0 0 25)) [] (fun _ => rfl) ([]) (fun _ => rfl) rfl (fun _ => rfl) [ma 0, ma 1, ma 2, ma 3, ma 4, ma 5, ma 6] (fun _ => rfl) rfl rfl rfl (fun u1 h3 => ?_)
  refine z_aload_n (n := 5) hC dX3_firstIn_4 rfl 0 rfl rfl ?_
  refine z_iload_n (n := 6) hC dX3_firstIn_5 rfl 1 rfl rfl ?_
  refine z_callv (R := { frames := 6, cells := 0, slots := 0, locals := 129 }) (cells := 0) (slots := 0) (ws := wN ma cI th n sw st b r T sc fi mi fa (va_cpy (nowF T sc fi mi fa) K 0 0 25)) (n := 9) (As := [.int (nI k)]) (rest := []) hC (k_X3_turnsOn l G cI cZ cJ ma th n sw st b r T sc fi mi fa (va_cpy (nowF T sc fi mi fa) K 0 0 25) k (by omega) (by omega) (by omega) hst) kg_X3_102 kd_yX3_turnsOn dX3_firstIn_6 ⟨Nat.le_of_ble_eq_true rfl, Nat.le_of_ble_eq_true rfl⟩ 0 rfl rfl rfl [0, 1, 2, 3, 4, 5, 6] rfl (by decide) rfl (Nat.le_of_ble_eq_true rfl) ⟨Nat.le_of_ble_eq_true rfl, Nat.le_of_ble_eq_true rfl⟩ (ws2 := fun u4 => wN ma cI th n sw st b r (T + k) (pwF sc (plS sw st b r sc fi mi fa T k) n) (pwF fi (plF sw st b r sc fi mi fa T k) n) (pwF mi (plM sw st b r sc fi mi fa T k) n) (pwF fa (plA sw st b r sc fi mi fa T k) n) (va_cpy (nowF T sc fi mi fa) K 0 0 25)) [] (fun _ => rfl) ([]) (fun _ => rfl) rfl (fun _ => rfl) [ma 0, ma 1, ma 2, ma 3, ma 4, ma 5, ma 6] (fun _ => rfl) rfl rfl rfl (fun u4 h6 => ?_)
  refine z_aload_n (n := 10) hC dX3_firstIn_9 rfl 0 rfl rfl ?_
  refine z_calli (R := { frames := 6, cells := 0, slots := 0, locals := 129 }) (cells := 0) (slots := 0) (ws := wN ma cI th n sw st b r (T + k) (pwF sc (plS sw st b r sc fi mi fa T k) n) (pwF fi (plF sw st b r sc fi mi fa T k) n) (pwF mi (plM sw st b r sc fi mi fa T k) n) (pwF fa (plA sw st b r sc fi mi fa T k) n) (va_cpy (nowF T sc fi mi fa) K 0 0 25)) (n := 13) (As := []) (rest := []) hC (k_X3_first l G cI cZ cJ ma th n sw st b r (T + k) (pwF sc (plS sw st b r sc fi mi fa T k) n) (pwF fi (plF sw st b r sc fi mi fa T k) n) (pwF mi (plM sw st b r sc fi mi fa T k) n) (pwF fa (plA sw st b r sc fi mi fa T k) n) (va_cpy (nowF T sc fi mi fa) K 0 0 25) (by omega) (by omega)) kg_X3_78 kd_yX3_first dX3_firstIn_10 ⟨Nat.le_of_ble_eq_true rfl, Nat.le_of_ble_eq_true rfl⟩ 0 rfl rfl rfl [0, 1, 2, 3, 4, 5, 6] rfl (by decide) rfl (Nat.le_of_ble_eq_true rfl) ⟨Nat.le_of_ble_eq_true rfl, Nat.le_of_ble_eq_true rfl⟩ (ws2 := fun u7 => wN ma cI th n sw st b r (T + k) (pwF sc (plS sw st b r sc fi mi fa T k) n) (pwF fi (plF sw st b r sc fi mi fa T k) n) (pwF mi (plM sw st b r sc fi mi fa T k) n) (pwF fa (plA sw st b r sc fi mi fa T k) n) (va_cpy (nowF T sc fi mi fa) K 0 0 25)) [] (fun _ => rfl) ([]) (fun _ => rfl) rfl (fun _ => rfl) [ma 0, ma 1, ma 2, ma 3, ma 4, ma 5, ma 6] (fun _ => rfl) rfl rfl rfl (fun r8 u7 h9 => ?_)
  subst h9
  refine z_istore_n (lv' := [(2, .int (ldF (pwF sc (plS sw st b r sc fi mi fa T k) n) n)), (0, .ref (ma 0)), (1, .int (nI k))]) (n := 14) hC dX3_firstIn_13 rfl (by decide) rfl rfl ?_
  refine z_aload_n (n := 15) hC dX3_firstIn_14 rfl 1 rfl rfl ?_
  refine z_callv (R := { frames := 6, cells := 0, slots := 0, locals := 129 }) (cells := 0) (slots := 0) (ws := wN ma cI th n sw st b r (T + k) (pwF sc (plS sw st b r sc fi mi fa T k) n) (pwF fi (plF sw st b r sc fi mi fa T k) n) (pwF mi (plM sw st b r sc fi mi fa T k) n) (pwF fa (plA sw st b r sc fi mi fa T k) n) (va_cpy (nowF T sc fi mi fa) K 0 0 25)) (n := 18) (As := []) (rest := []) hC (k_X3_bringBack l G cI cZ cJ ma th n sw st b r (T + k) (pwF sc (plS sw st b r sc fi mi fa T k) n) (pwF fi (plF sw st b r sc fi mi fa T k) n) (pwF mi (plM sw st b r sc fi mi fa T k) n) (pwF fa (plA sw st b r sc fi mi fa T k) n) K T sc fi mi fa (fun j hj => pwF_at (by omega))) kg_X3_123 kd_yX3_bringBack dX3_firstIn_15 ⟨Nat.le_of_ble_eq_true rfl, Nat.le_of_ble_eq_true rfl⟩ 0 rfl rfl rfl [0, 1, 2, 3, 4, 5, 6] rfl (by decide) rfl (Nat.le_of_ble_eq_true rfl) ⟨Nat.le_of_ble_eq_true rfl, Nat.le_of_ble_eq_true rfl⟩ (ws2 := fun u10 => wN ma cI th n sw st b r T sc fi mi fa (va_cpy (nowF T sc fi mi fa) K 0 0 25)) [] (fun _ => rfl) ([]) (fun _ => rfl) rfl (fun _ => rfl) [ma 0, ma 1, ma 2, ma 3, ma 4, ma 5, ma 6] (fun _ => rfl) rfl rfl rfl (fun u10 h12 => ?_)
  refine z_iload_n (n := 19) hC dX3_firstIn_18 rfl 0 rfl rfl ?_
  refine z_iret hC hr hlocks () ?_ rfl dX3_firstIn_19 (by omega) (by omega)
  exact ldF_cong (fun g hg => pwF_lt hg)

set_option maxRecDepth 100000 in
set_option maxHeartbeats 4000000 in
theorem k_X3_leaderIn (l : Launch) (G : va_G) (cI cZ cJ : ClassId) (ma : Nat → Nat) (th : Int32) (n : Nat) (sw : Nat → Int32) (st : Nat → Int32) (b : Nat → Int32) (r : Nat → Int32) (T : Nat) (sc : Nat → Int32) (fi : Nat → Int32) (mi : Nat → Int32) (fa : Nat → Int32) (K : Nat → Int32) (k : Nat) (hn : n ≤ 6) (hT : T + 200 < 2 ^ 29) (hk1 : 1 ≤ k) (hk2 : k ≤ 50) (hst : ∀ g, g < n → nI 1 ≤ st g) : MI (Unit) l yX3_leaderIn cX3_leaderIn 2 7 151 G (tY cI cZ cJ) [.ref (ma 0), .int (nI k)] (wN ma cI th n sw st b r T sc fi mi fa K) (fun zr _ => zr = ldF (plS sw st b r sc fi mi fa T k) n) (fun _ => wN ma cI (nI 0) n sw st b r T sc fi mi fa (va_cpy (nowF T sc fi mi fa) K 0 0 25)) 0 0 := by
  refine MI_of (by decide) (Nat.le_of_ble_eq_true rfl) [(0, .ref (ma 0)), (1, .int (nI k))] rfl ?_
  intro p e s m below meth c hC hr hlocks hname
  have hC : Cx p s m _ c cX3_leaderIn 2 RX3 G (tY cI cZ cJ) _ := hC
  refine z_aload_n (n := 1) hC dX3_leaderIn_0 rfl 0 rfl rfl ?_
  refine z_iconst (v := nI 0) (n := 2) hC dX3_leaderIn_1 (by decide) rfl ?_
  refine pf_X3_28 (ws' := wN ma cI (nI 0) n sw st b r T sc fi mi fa K) (n := 5) hC 0 rfl (Nat.le_of_ble_eq_true rfl) dX3_leaderIn_2 rfl rfl ?_
  refine z_iload_n (n := 6) hC dX3_leaderIn_5 rfl 1 rfl rfl ?_
  refine z_iconst (v := nI 1) (n := 7) hC dX3_leaderIn_6 (by decide) rfl ?_
  refine z_bipush (v := nI 50) (n := 9) hC dX3_leaderIn_7 (by decide) rfl ?_
  refine z_callsb (R := { frames := 7, cells := 0, slots := 0, locals := 151 }) (cells := 0) (slots := 0) (ws := wN ma cI (nI 0) n sw st b r T sc fi mi fa K) (n := 12) (As := [.int (nI k), .int (nI 1), .int (nI 50)]) (rest := []) hC (k_X3_isFrom_t l G cI cZ cJ (nI k) (nI 1) (nI 50) (nI_nlt (by omega) (by omega)) (nI_nlt (by omega) (by omega))) kg_X3_35 kd_yX3_isFrom dX3_leaderIn_9 ⟨Nat.le_of_ble_eq_true rfl, Nat.le_of_ble_eq_true rfl⟩ [] rfl (by decide) rfl (Nat.le_of_ble_eq_true rfl) ⟨Nat.le_of_ble_eq_true rfl, Nat.le_of_ble_eq_true rfl⟩ (ws2 := fun u1 => wN ma cI (nI 0) n sw st b r T sc fi mi fa K) [0, 1, 2, 3, 4, 5, 6] (fun _ => rfl) (wN ma cI (nI 0) n sw st b r T sc fi mi fa K) (fun _ => rfl) rfl (fun _ => rfl) [] (fun _ => rfl) rfl rfl rfl (fun r2 u1 h3 => ?_)
  subst h3
  refine z_if_eq_b (tgt := 23) (n := 15) hC true rfl dX3_leaderIn_12 (by decide) rfl (fun c4 => absurd c4 (by decide)) (fun c4 => ?_)
  refine z_aload_n (n := 16) hC dX3_leaderIn_15 rfl 0 rfl rfl ?_
  refine z_iload_n (n := 17) hC dX3_leaderIn_16 rfl 1 rfl rfl ?_
  refine z_calli (R := { frames := 7, cells := 0, slots := 0, locals := 151 }) (cells := 0) (slots := 0) (ws := wN ma cI (nI 0) n sw st b r T sc fi mi fa K) (n := 20) (As := [.int (nI k)]) (rest := []) hC (k_X3_firstIn l G cI cZ cJ ma (nI 0) n sw st b r T sc fi mi fa K k (by omega) (by omega) (by omega) hst) kg_X3_129 kd_yX3_firstIn dX3_leaderIn_17 ⟨Nat.le_of_ble_eq_true rfl, Nat.le_of_ble_eq_true rfl⟩ 0 rfl rfl rfl [0, 1, 2, 3, 4, 5, 6] rfl (by decide) rfl (Nat.le_of_ble_eq_true rfl) ⟨Nat.le_of_ble_eq_true rfl, Nat.le_of_ble_eq_true rfl⟩ (ws2 := fun u5 => wN ma cI (nI 0) n sw st b r T sc fi mi fa (va_cpy (nowF T sc fi mi fa) K 0 0 25)) [] (fun _ => rfl) ([]) (fun _ => rfl) rfl (fun _ => rfl) [ma 0, ma 1, ma 2, ma 3, ma 4, ma 5, ma 6] (fun _ => rfl) rfl rfl rfl (fun r6 u5 h7 => ?_)
  subst h7
  refine z_goto (n := 28) hC dX3_leaderIn_20 (by decide) ?_
  refine z_iret hC hr hlocks () ?_ rfl dX3_leaderIn_28 (by omega) (by omega)
  rfl

set_option maxRecDepth 100000 in
set_option maxHeartbeats 4000000 in
theorem k_X3_leaderIn_x (l : Launch) (G : va_G) (cI cZ cJ : ClassId) (ma : Nat → Nat) (th : Int32) (n : Nat) (sw : Nat → Int32) (st : Nat → Int32) (b : Nat → Int32) (r : Nat → Int32) (T : Nat) (sc : Nat → Int32) (fi : Nat → Int32) (mi : Nat → Int32) (fa : Nat → Int32) (K : Nat → Int32) (x : Int32) (hn : n ≤ 6) (hT : T + 200 < 2 ^ 29) (hb : x < nI 1 ∨ nI 50 < x) : MI (Unit) l yX3_leaderIn cX3_leaderIn 2 1 22 G (tY cI cZ cJ) [.ref (ma 0), .int x] (wN ma cI th n sw st b r T sc fi mi fa K) (fun zr _ => zr = nI 0) (fun _ => wN ma cI (nI 1) n sw st b r T sc fi mi fa K) 0 0 := by
  refine MI_of (by decide) (Nat.le_of_ble_eq_true rfl) [(0, .ref (ma 0)), (1, .int x)] rfl ?_
  intro p e s m below meth c hC hr hlocks hname
  have hC : Cx p s m _ c cX3_leaderIn 2 RX3 G (tY cI cZ cJ) _ := hC
  refine z_aload_n (n := 1) hC dX3_leaderIn_0 rfl 0 rfl rfl ?_
  refine z_iconst (v := nI 0) (n := 2) hC dX3_leaderIn_1 (by decide) rfl ?_
  refine pf_X3_28 (ws' := wN ma cI (nI 0) n sw st b r T sc fi mi fa K) (n := 5) hC 0 rfl (Nat.le_of_ble_eq_true rfl) dX3_leaderIn_2 rfl rfl ?_
  refine z_iload_n (n := 6) hC dX3_leaderIn_5 rfl 1 rfl rfl ?_
  refine z_iconst (v := nI 1) (n := 7) hC dX3_leaderIn_6 (by decide) rfl ?_
  refine z_bipush (v := nI 50) (n := 9) hC dX3_leaderIn_7 (by decide) rfl ?_
  refine z_callsb (R := { frames := 1, cells := 0, slots := 0, locals := 22 }) (cells := 0) (slots := 0) (ws := wN ma cI (nI 0) n sw st b r T sc fi mi fa K) (n := 12) (As := [.int x, .int (nI 1), .int (nI 50)]) (rest := []) hC (k_X3_isFrom_f l G cI cZ cJ x (nI 1) (nI 50) hb) kg_X3_35 kd_yX3_isFrom dX3_leaderIn_9 ⟨Nat.le_of_ble_eq_true rfl, Nat.le_of_ble_eq_true rfl⟩ [] rfl (by decide) rfl (Nat.le_of_ble_eq_true rfl) ⟨Nat.le_of_ble_eq_true rfl, Nat.le_of_ble_eq_true rfl⟩ (ws2 := fun u1 => wN ma cI (nI 0) n sw st b r T sc fi mi fa K) [0, 1, 2, 3, 4, 5, 6] (fun _ => rfl) (wN ma cI (nI 0) n sw st b r T sc fi mi fa K) (fun _ => rfl) rfl (fun _ => rfl) [] (fun _ => rfl) rfl rfl rfl (fun r2 u1 h3 => ?_)
  subst h3
  refine z_if_eq_b (tgt := 23) (n := 15) hC false rfl dX3_leaderIn_12 (by decide) rfl (fun c4 => ?_) (fun c4 => absurd c4 (by decide))
  refine z_aload_n (n := 24) hC dX3_leaderIn_23 rfl 0 rfl rfl ?_
  refine z_iconst (v := nI 1) (n := 25) hC dX3_leaderIn_24 (by decide) rfl ?_
  refine z_calli (R := { frames := 1, cells := 0, slots := 0, locals := 22 }) (cells := 0) (slots := 0) (ws := wN ma cI (nI 0) n sw st b r T sc fi mi fa K) (n := 28) (As := [.int (nI 1)]) (rest := []) hC (k_X3_no l G cI cZ cJ ma (nI 0) n sw st b r T sc fi mi fa K (nI 1) (by omega) (by omega)) kg_X3_92 kd_yX3_no dX3_leaderIn_25 ⟨Nat.le_of_ble_eq_true rfl, Nat.le_of_ble_eq_true rfl⟩ 0 rfl rfl rfl [0, 1, 2, 3, 4, 5, 6] rfl (by decide) rfl (Nat.le_of_ble_eq_true rfl) ⟨Nat.le_of_ble_eq_true rfl, Nat.le_of_ble_eq_true rfl⟩ (ws2 := fun u5 => wN ma cI (nI 1) n sw st b r T sc fi mi fa K) [] (fun _ => rfl) ([]) (fun _ => rfl) rfl (fun _ => rfl) [ma 0, ma 1, ma 2, ma 3, ma 4, ma 5, ma 6] (fun _ => rfl) rfl rfl rfl (fun r6 u5 h7 => ?_)
  subst h7
  refine z_iret hC hr hlocks () ?_ rfl dX3_leaderIn_28 (by omega) (by omega)
  rfl

set_option maxRecDepth 100000 in
set_option maxHeartbeats 4000000 in
theorem k_X3_scoreIn (l : Launch) (G : va_G) (cI cZ cJ : ClassId) (ma : Nat → Nat) (th : Int32) (n : Nat) (sw : Nat → Int32) (st : Nat → Int32) (b : Nat → Int32) (r : Nat → Int32) (T : Nat) (sc : Nat → Int32) (fi : Nat → Int32) (mi : Nat → Int32) (fa : Nat → Int32) (K : Nat → Int32) (g : Nat) (k : Nat) (hn : n ≤ 6) (hT : T + 200 < 2 ^ 29) (hg : g < n) (hk1 : 1 ≤ k) (hk2 : k ≤ 50) (hst : ∀ g, g < n → nI 1 ≤ st g) : MI (Unit) l yX3_scoreIn cX3_scoreIn 4 6 129 G (tY cI cZ cJ) [.ref (ma 0), .int (nI g), .int (nI k)] (wN ma cI th n sw st b r T sc fi mi fa K) (fun zr _ => zr = plS sw st b r sc fi mi fa T k g) (fun _ => wN ma cI (nI 0) n sw st b r T sc fi mi fa (va_cpy (nowF T sc fi mi fa) K 0 0 25)) 0 0 := by
  refine MI_of (by decide) (Nat.le_of_ble_eq_true rfl) [(0, .ref (ma 0)), (1, .int (nI g)), (2, .int (nI k))] rfl ?_
  intro p e s m below meth c hC hr hlocks hname
  have hC : Cx p s m _ c cX3_scoreIn 4 RX3 G (tY cI cZ cJ) _ := hC
  refine z_aload_n (n := 1) hC dX3_scoreIn_0 rfl 0 rfl rfl ?_
  refine z_iconst (v := nI 0) (n := 2) hC dX3_scoreIn_1 (by decide) rfl ?_
  refine pf_X3_28 (ws' := wN ma cI (nI 0) n sw st b r T sc fi mi fa K) (n := 5) hC 0 rfl (Nat.le_of_ble_eq_true rfl) dX3_scoreIn_2 rfl rfl ?_
  refine z_aload_n (n := 6) hC dX3_scoreIn_5 rfl 0 rfl rfl ?_
  refine z_iload_n (n := 7) hC dX3_scoreIn_6 rfl 1 rfl rfl ?_
  refine z_callb (R := { frames := 6, cells := 0, slots := 0, locals := 129 }) (cells := 0) (slots := 0) (ws := wN ma cI (nI 0) n sw st b r T sc fi mi fa K) (n := 10) (As := [.int (nI g)]) (rest := []) hC (k_X3_isGun_t l G cI cZ cJ ma (nI 0) n sw st b r T sc fi mi fa K g (by omega) hg) kg_X3_95 kd_yX3_isGun dX3_scoreIn_7 ⟨Nat.le_of_ble_eq_true rfl, Nat.le_of_ble_eq_true rfl⟩ 0 rfl rfl rfl [0, 1, 2, 3, 4, 5, 6] rfl (by decide) rfl (Nat.le_of_ble_eq_true rfl) ⟨Nat.le_of_ble_eq_true rfl, Nat.le_of_ble_eq_true rfl⟩ (ws2 := fun u1 => wN ma cI (nI 0) n sw st b r T sc fi mi fa K) [] (fun _ => rfl) ([]) (fun _ => rfl) rfl (fun _ => rfl) [ma 0, ma 1, ma 2, ma 3, ma 4, ma 5, ma 6] (fun _ => rfl) rfl rfl rfl (fun r2 u1 h3 => ?_)
  subst h3
  refine z_if_ne_b (tgt := 19) (n := 13) hC true rfl dX3_scoreIn_10 (by decide) rfl (fun c4 => ?_) (fun c4 => absurd c4 (by decide))
  refine z_iload_n (n := 20) hC dX3_scoreIn_19 rfl 2 rfl rfl ?_
  refine z_iconst (v := nI 1) (n := 21) hC dX3_scoreIn_20 (by decide) rfl ?_
  refine z_bipush (v := nI 50) (n := 23) hC dX3_scoreIn_21 (by decide) rfl ?_
  refine z_callsb (R := { frames := 6, cells := 0, slots := 0, locals := 129 }) (cells := 0) (slots := 0) (ws := wN ma cI (nI 0) n sw st b r T sc fi mi fa K) (n := 26) (As := [.int (nI k), .int (nI 1), .int (nI 50)]) (rest := []) hC (k_X3_isFrom_t l G cI cZ cJ (nI k) (nI 1) (nI 50) (nI_nlt (by omega) (by omega)) (nI_nlt (by omega) (by omega))) kg_X3_35 kd_yX3_isFrom dX3_scoreIn_23 ⟨Nat.le_of_ble_eq_true rfl, Nat.le_of_ble_eq_true rfl⟩ [] rfl (by decide) rfl (Nat.le_of_ble_eq_true rfl) ⟨Nat.le_of_ble_eq_true rfl, Nat.le_of_ble_eq_true rfl⟩ (ws2 := fun u5 => wN ma cI (nI 0) n sw st b r T sc fi mi fa K) [0, 1, 2, 3, 4, 5, 6] (fun _ => rfl) (wN ma cI (nI 0) n sw st b r T sc fi mi fa K) (fun _ => rfl) rfl (fun _ => rfl) [] (fun _ => rfl) rfl rfl rfl (fun r6 u5 h7 => ?_)
  subst h7
  refine z_if_ne_b (tgt := 35) (n := 29) hC true rfl dX3_scoreIn_26 (by decide) rfl (fun c8 => ?_) (fun c8 => absurd c8 (by decide))
  refine z_aload_n (n := 36) hC dX3_scoreIn_35 rfl 0 rfl rfl ?_
  refine z_callv (R := { frames := 6, cells := 0, slots := 0, locals := 129 }) (cells := 0) (slots := 0) (ws := wN ma cI (nI 0) n sw st b r T sc fi mi fa K) (n := 39) (As := []) (rest := []) hC (k_X3_keep l G cI cZ cJ ma (nI 0) n sw st b r T sc fi mi fa K (by omega) (by omega)) kg_X3_120 kd_yX3_keep dX3_scoreIn_36 ⟨Nat.le_of_ble_eq_true rfl, Nat.le_of_ble_eq_true rfl⟩ 0 rfl rfl rfl [0, 1, 2, 3, 4, 5, 6] rfl (by decide) rfl (Nat.le_of_ble_eq_true rfl) ⟨Nat.le_of_ble_eq_true rfl, Nat.le_of_ble_eq_true rfl⟩ (ws2 := fun u9 => wN ma cI (nI 0) n sw st b r T sc fi mi fa (va_cpy (nowF T sc fi mi fa) K 0 0 25)) [] (fun _ => rfl) ([]) (fun _ => rfl) rfl (fun _ => rfl) [ma 0, ma 1, ma 2, ma 3, ma 4, ma 5, ma 6] (fun _ => rfl) rfl rfl rfl (fun u9 h11 => ?_)
  refine z_aload_n (n := 40) hC dX3_scoreIn_39 rfl 0 rfl rfl ?_
  refine z_iload_n (n := 41) hC dX3_scoreIn_40 rfl 2 rfl rfl ?_
  refine z_callv (R := { frames := 6, cells := 0, slots := 0, locals := 129 }) (cells := 0) (slots := 0) (ws := wN ma cI (nI 0) n sw st b r T sc fi mi fa (va_cpy (nowF T sc fi mi fa) K 0 0 25)) (n := 44) (As := [.int (nI k)]) (rest := []) hC (k_X3_turnsOn l G cI cZ cJ ma (nI 0) n sw st b r T sc fi mi fa (va_cpy (nowF T sc fi mi fa) K 0 0 25) k (by omega) (by omega) (by omega) hst) kg_X3_102 kd_yX3_turnsOn dX3_scoreIn_41 ⟨Nat.le_of_ble_eq_true rfl, Nat.le_of_ble_eq_true rfl⟩ 0 rfl rfl rfl [0, 1, 2, 3, 4, 5, 6] rfl (by decide) rfl (Nat.le_of_ble_eq_true rfl) ⟨Nat.le_of_ble_eq_true rfl, Nat.le_of_ble_eq_true rfl⟩ (ws2 := fun u12 => wN ma cI (nI 0) n sw st b r (T + k) (pwF sc (plS sw st b r sc fi mi fa T k) n) (pwF fi (plF sw st b r sc fi mi fa T k) n) (pwF mi (plM sw st b r sc fi mi fa T k) n) (pwF fa (plA sw st b r sc fi mi fa T k) n) (va_cpy (nowF T sc fi mi fa) K 0 0 25)) [] (fun _ => rfl) ([]) (fun _ => rfl) rfl (fun _ => rfl) [ma 0, ma 1, ma 2, ma 3, ma 4, ma 5, ma 6] (fun _ => rfl) rfl rfl rfl (fun u12 h14 => ?_)
  refine z_aload_n (n := 45) hC dX3_scoreIn_44 rfl 0 rfl rfl ?_
  refine gf_X3_22 (v := .ref (ma 5)) (n := 48) hC 0 rfl rfl dX3_scoreIn_45 rfl ?_
  refine z_iconst (v := nI 1) (n := 49) hC dX3_scoreIn_48 (by decide) rfl ?_
  refine z_iload_n (n := 50) hC dX3_scoreIn_49 rfl 1 rfl rfl ?_
  refine z_iadd (v := nI (1 + g)) (n := 51) hC dX3_scoreIn_50 (nI_add 1 g) rfl ?_
  refine z_iald (v := plS sw st b r sc fi mi fa T k g) (n := 52) hC 5 0 (1 + g) rfl rfl rfl (by omega) (by decide) dX3_scoreIn_51 ((nw_sc (by omega)).trans (pwF_lt hg)) rfl ?_
  refine z_istore_n (lv' := [(3, .int (plS sw st b r sc fi mi fa T k g)), (0, .ref (ma 0)), (1, .int (nI g)), (2, .int (nI k))]) (n := 53) hC dX3_scoreIn_52 rfl (by decide) rfl rfl ?_
  refine z_aload_n (n := 54) hC dX3_scoreIn_53 rfl 1 rfl rfl ?_
  refine z_callv (R := { frames := 6, cells := 0, slots := 0, locals := 129 }) (cells := 0) (slots := 0) (ws := wN ma cI (nI 0) n sw st b r (T + k) (pwF sc (plS sw st b r sc fi mi fa T k) n) (pwF fi (plF sw st b r sc fi mi fa T k) n) (pwF mi (plM sw st b r sc fi mi fa T k) n) (pwF fa (plA sw st b r sc fi mi fa T k) n) (va_cpy (nowF T sc fi mi fa) K 0 0 25)) (n := 57) (As := []) (rest := []) hC (k_X3_bringBack l G cI cZ cJ ma (nI 0) n sw st b r (T + k) (pwF sc (plS sw st b r sc fi mi fa T k) n) (pwF fi (plF sw st b r sc fi mi fa T k) n) (pwF mi (plM sw st b r sc fi mi fa T k) n) (pwF fa (plA sw st b r sc fi mi fa T k) n) K T sc fi mi fa (fun j hj => pwF_at (by omega))) kg_X3_123 kd_yX3_bringBack dX3_scoreIn_54 ⟨Nat.le_of_ble_eq_true rfl, Nat.le_of_ble_eq_true rfl⟩ 0 rfl rfl rfl [0, 1, 2, 3, 4, 5, 6] rfl (by decide) rfl (Nat.le_of_ble_eq_true rfl) ⟨Nat.le_of_ble_eq_true rfl, Nat.le_of_ble_eq_true rfl⟩ (ws2 := fun u15 => wN ma cI (nI 0) n sw st b r T sc fi mi fa (va_cpy (nowF T sc fi mi fa) K 0 0 25)) [] (fun _ => rfl) ([]) (fun _ => rfl) rfl (fun _ => rfl) [ma 0, ma 1, ma 2, ma 3, ma 4, ma 5, ma 6] (fun _ => rfl) rfl rfl rfl (fun u15 h17 => ?_)
  refine z_iload_n (n := 58) hC dX3_scoreIn_57 rfl 0 rfl rfl ?_
  refine z_iret hC hr hlocks () ?_ rfl dX3_scoreIn_58 (by omega) (by omega)
  rfl

set_option maxRecDepth 100000 in
set_option maxHeartbeats 4000000 in
theorem k_X3_scoreIn_xa (l : Launch) (G : va_G) (cI cZ cJ : ClassId) (ma : Nat → Nat) (th : Int32) (n : Nat) (sw : Nat → Int32) (st : Nat → Int32) (b : Nat → Int32) (r : Nat → Int32) (T : Nat) (sc : Nat → Int32) (fi : Nat → Int32) (mi : Nat → Int32) (fa : Nat → Int32) (K : Nat → Int32) (x : Int32) (y : Int32) (hn : n ≤ 6) (hT : T + 200 < 2 ^ 29) (hb : x < 0 ∨ nI n ≤ x) : MI (Unit) l yX3_scoreIn cX3_scoreIn 4 2 43 G (tY cI cZ cJ) [.ref (ma 0), .int x, .int y] (wN ma cI th n sw st b r T sc fi mi fa K) (fun zr _ => zr = nI 0) (fun _ => wN ma cI (nI 1) n sw st b r T sc fi mi fa K) 0 0 := by
  refine MI_of (by decide) (Nat.le_of_ble_eq_true rfl) [(0, .ref (ma 0)), (1, .int x), (2, .int y)] rfl ?_
  intro p e s m below meth c hC hr hlocks hname
  have hC : Cx p s m _ c cX3_scoreIn 4 RX3 G (tY cI cZ cJ) _ := hC
  refine z_aload_n (n := 1) hC dX3_scoreIn_0 rfl 0 rfl rfl ?_
  refine z_iconst (v := nI 0) (n := 2) hC dX3_scoreIn_1 (by decide) rfl ?_
  refine pf_X3_28 (ws' := wN ma cI (nI 0) n sw st b r T sc fi mi fa K) (n := 5) hC 0 rfl (Nat.le_of_ble_eq_true rfl) dX3_scoreIn_2 rfl rfl ?_
  refine z_aload_n (n := 6) hC dX3_scoreIn_5 rfl 0 rfl rfl ?_
  refine z_iload_n (n := 7) hC dX3_scoreIn_6 rfl 1 rfl rfl ?_
  refine z_callb (R := { frames := 2, cells := 0, slots := 0, locals := 43 }) (cells := 0) (slots := 0) (ws := wN ma cI (nI 0) n sw st b r T sc fi mi fa K) (n := 10) (As := [.int x]) (rest := []) hC (k_X3_isGun_f l G cI cZ cJ ma (nI 0) n sw st b r T sc fi mi fa K x (by omega) hb) kg_X3_95 kd_yX3_isGun dX3_scoreIn_7 ⟨Nat.le_of_ble_eq_true rfl, Nat.le_of_ble_eq_true rfl⟩ 0 rfl rfl rfl [0, 1, 2, 3, 4, 5, 6] rfl (by decide) rfl (Nat.le_of_ble_eq_true rfl) ⟨Nat.le_of_ble_eq_true rfl, Nat.le_of_ble_eq_true rfl⟩ (ws2 := fun u1 => wN ma cI (nI 0) n sw st b r T sc fi mi fa K) [] (fun _ => rfl) ([]) (fun _ => rfl) rfl (fun _ => rfl) [ma 0, ma 1, ma 2, ma 3, ma 4, ma 5, ma 6] (fun _ => rfl) rfl rfl rfl (fun r2 u1 h3 => ?_)
  subst h3
  refine z_if_ne_b (tgt := 19) (n := 13) hC false rfl dX3_scoreIn_10 (by decide) rfl (fun c4 => absurd c4 (by decide)) (fun c4 => ?_)
  refine z_aload_n (n := 14) hC dX3_scoreIn_13 rfl 0 rfl rfl ?_
  refine z_iconst (v := nI 1) (n := 15) hC dX3_scoreIn_14 (by decide) rfl ?_
  refine z_calli (R := { frames := 2, cells := 0, slots := 0, locals := 43 }) (cells := 0) (slots := 0) (ws := wN ma cI (nI 0) n sw st b r T sc fi mi fa K) (n := 18) (As := [.int (nI 1)]) (rest := []) hC (k_X3_no l G cI cZ cJ ma (nI 0) n sw st b r T sc fi mi fa K (nI 1) (by omega) (by omega)) kg_X3_92 kd_yX3_no dX3_scoreIn_15 ⟨Nat.le_of_ble_eq_true rfl, Nat.le_of_ble_eq_true rfl⟩ 0 rfl rfl rfl [0, 1, 2, 3, 4, 5, 6] rfl (by decide) rfl (Nat.le_of_ble_eq_true rfl) ⟨Nat.le_of_ble_eq_true rfl, Nat.le_of_ble_eq_true rfl⟩ (ws2 := fun u5 => wN ma cI (nI 1) n sw st b r T sc fi mi fa K) [] (fun _ => rfl) ([]) (fun _ => rfl) rfl (fun _ => rfl) [ma 0, ma 1, ma 2, ma 3, ma 4, ma 5, ma 6] (fun _ => rfl) rfl rfl rfl (fun r6 u5 h7 => ?_)
  subst h7
  refine z_iret hC hr hlocks () ?_ rfl dX3_scoreIn_18 (by omega) (by omega)
  rfl

set_option maxRecDepth 100000 in
set_option maxHeartbeats 4000000 in
theorem k_X3_scoreIn_xb (l : Launch) (G : va_G) (cI cZ cJ : ClassId) (ma : Nat → Nat) (th : Int32) (n : Nat) (sw : Nat → Int32) (st : Nat → Int32) (b : Nat → Int32) (r : Nat → Int32) (T : Nat) (sc : Nat → Int32) (fi : Nat → Int32) (mi : Nat → Int32) (fa : Nat → Int32) (K : Nat → Int32) (g : Nat) (x : Int32) (hn : n ≤ 6) (hT : T + 200 < 2 ^ 29) (hg : g < n) (hb : x < nI 1 ∨ nI 50 < x) : MI (Unit) l yX3_scoreIn cX3_scoreIn 4 2 43 G (tY cI cZ cJ) [.ref (ma 0), .int (nI g), .int x] (wN ma cI th n sw st b r T sc fi mi fa K) (fun zr _ => zr = nI 0) (fun _ => wN ma cI (nI 2) n sw st b r T sc fi mi fa K) 0 0 := by
  refine MI_of (by decide) (Nat.le_of_ble_eq_true rfl) [(0, .ref (ma 0)), (1, .int (nI g)), (2, .int x)] rfl ?_
  intro p e s m below meth c hC hr hlocks hname
  have hC : Cx p s m _ c cX3_scoreIn 4 RX3 G (tY cI cZ cJ) _ := hC
  refine z_aload_n (n := 1) hC dX3_scoreIn_0 rfl 0 rfl rfl ?_
  refine z_iconst (v := nI 0) (n := 2) hC dX3_scoreIn_1 (by decide) rfl ?_
  refine pf_X3_28 (ws' := wN ma cI (nI 0) n sw st b r T sc fi mi fa K) (n := 5) hC 0 rfl (Nat.le_of_ble_eq_true rfl) dX3_scoreIn_2 rfl rfl ?_
  refine z_aload_n (n := 6) hC dX3_scoreIn_5 rfl 0 rfl rfl ?_
  refine z_iload_n (n := 7) hC dX3_scoreIn_6 rfl 1 rfl rfl ?_
  refine z_callb (R := { frames := 2, cells := 0, slots := 0, locals := 43 }) (cells := 0) (slots := 0) (ws := wN ma cI (nI 0) n sw st b r T sc fi mi fa K) (n := 10) (As := [.int (nI g)]) (rest := []) hC (k_X3_isGun_t l G cI cZ cJ ma (nI 0) n sw st b r T sc fi mi fa K g (by omega) hg) kg_X3_95 kd_yX3_isGun dX3_scoreIn_7 ⟨Nat.le_of_ble_eq_true rfl, Nat.le_of_ble_eq_true rfl⟩ 0 rfl rfl rfl [0, 1, 2, 3, 4, 5, 6] rfl (by decide) rfl (Nat.le_of_ble_eq_true rfl) ⟨Nat.le_of_ble_eq_true rfl, Nat.le_of_ble_eq_true rfl⟩ (ws2 := fun u1 => wN ma cI (nI 0) n sw st b r T sc fi mi fa K) [] (fun _ => rfl) ([]) (fun _ => rfl) rfl (fun _ => rfl) [ma 0, ma 1, ma 2, ma 3, ma 4, ma 5, ma 6] (fun _ => rfl) rfl rfl rfl (fun r2 u1 h3 => ?_)
  subst h3
  refine z_if_ne_b (tgt := 19) (n := 13) hC true rfl dX3_scoreIn_10 (by decide) rfl (fun c4 => ?_) (fun c4 => absurd c4 (by decide))
  refine z_iload_n (n := 20) hC dX3_scoreIn_19 rfl 2 rfl rfl ?_
  refine z_iconst (v := nI 1) (n := 21) hC dX3_scoreIn_20 (by decide) rfl ?_
  refine z_bipush (v := nI 50) (n := 23) hC dX3_scoreIn_21 (by decide) rfl ?_
  refine z_callsb (R := { frames := 2, cells := 0, slots := 0, locals := 43 }) (cells := 0) (slots := 0) (ws := wN ma cI (nI 0) n sw st b r T sc fi mi fa K) (n := 26) (As := [.int x, .int (nI 1), .int (nI 50)]) (rest := []) hC (k_X3_isFrom_f l G cI cZ cJ x (nI 1) (nI 50) hb) kg_X3_35 kd_yX3_isFrom dX3_scoreIn_23 ⟨Nat.le_of_ble_eq_true rfl, Nat.le_of_ble_eq_true rfl⟩ [] rfl (by decide) rfl (Nat.le_of_ble_eq_true rfl) ⟨Nat.le_of_ble_eq_true rfl, Nat.le_of_ble_eq_true rfl⟩ (ws2 := fun u5 => wN ma cI (nI 0) n sw st b r T sc fi mi fa K) [0, 1, 2, 3, 4, 5, 6] (fun _ => rfl) (wN ma cI (nI 0) n sw st b r T sc fi mi fa K) (fun _ => rfl) rfl (fun _ => rfl) [] (fun _ => rfl) rfl rfl rfl (fun r6 u5 h7 => ?_)
  subst h7
  refine z_if_ne_b (tgt := 35) (n := 29) hC false rfl dX3_scoreIn_26 (by decide) rfl (fun c8 => absurd c8 (by decide)) (fun c8 => ?_)
  refine z_aload_n (n := 30) hC dX3_scoreIn_29 rfl 0 rfl rfl ?_
  refine z_iconst (v := nI 2) (n := 31) hC dX3_scoreIn_30 (by decide) rfl ?_
  refine z_calli (R := { frames := 2, cells := 0, slots := 0, locals := 43 }) (cells := 0) (slots := 0) (ws := wN ma cI (nI 0) n sw st b r T sc fi mi fa K) (n := 34) (As := [.int (nI 2)]) (rest := []) hC (k_X3_no l G cI cZ cJ ma (nI 0) n sw st b r T sc fi mi fa K (nI 2) (by omega) (by omega)) kg_X3_92 kd_yX3_no dX3_scoreIn_31 ⟨Nat.le_of_ble_eq_true rfl, Nat.le_of_ble_eq_true rfl⟩ 0 rfl rfl rfl [0, 1, 2, 3, 4, 5, 6] rfl (by decide) rfl (Nat.le_of_ble_eq_true rfl) ⟨Nat.le_of_ble_eq_true rfl, Nat.le_of_ble_eq_true rfl⟩ (ws2 := fun u9 => wN ma cI (nI 2) n sw st b r T sc fi mi fa K) [] (fun _ => rfl) ([]) (fun _ => rfl) rfl (fun _ => rfl) [ma 0, ma 1, ma 2, ma 3, ma 4, ma 5, ma 6] (fun _ => rfl) rfl rfl rfl (fun r10 u9 h11 => ?_)
  subst h11
  refine z_iret hC hr hlocks () ?_ rfl dX3_scoreIn_34 (by omega) (by omega)
  rfl

set_option maxRecDepth 100000 in
set_option maxHeartbeats 4000000 in
theorem k_X3_winner (l : Launch) (G : va_G) (cI cZ cJ : ClassId) (ma : Nat → Nat) (th : Int32) (n : Nat) (sw : Nat → Int32) (st : Nat → Int32) (b : Nat → Int32) (r : Nat → Int32) (T : Nat) (sc : Nat → Int32) (fi : Nat → Int32) (mi : Nat → Int32) (fa : Nat → Int32) (K : Nat → Int32) (hn : n ≤ 6) (hT : T + 200 < 2 ^ 29) (hn0 : 0 < n) (hst : ∀ g, g < n → nI 1 ≤ st g) : MI (Unit) l yX3_winner cX3_winner 2 3 68 G (tY cI cZ cJ) [.ref (ma 0)] (wN ma cI th n sw st b r T sc fi mi fa K) (fun zr _ => zr = wwF sw st sc fa n) (fun _ => wN ma cI th n sw st b r T sc fi mi fa (va_cpy (nowF T sc fi mi fa) K 0 0 25)) 0 0 := by
  refine MI_of (by decide) (Nat.le_of_ble_eq_true rfl) [(0, .ref (ma 0))] rfl ?_
  intro p e s m below meth c hC hr hlocks hname
  have hC : Cx p s m _ c cX3_winner 2 RX3 G (tY cI cZ cJ) _ := hC
  refine z_aload_n (n := 1) hC dX3_winner_0 rfl 0 rfl rfl ?_
  refine gf_X3_32 (v := .int (nI n)) (n := 4) hC 0 rfl rfl dX3_winner_1 rfl ?_
  refine z_if_ne (tgt := 9) (n := 7) hC dX3_winner_4 (by decide) rfl (fun c1 => ?_) (fun c1 => absurd c1 (nI_ne0 hn0 (by omega)))
  refine z_aload_n (n := 10) hC dX3_winner_9 rfl 0 rfl rfl ?_
  refine z_callv (R := { frames := 3, cells := 0, slots := 0, locals := 68 }) (cells := 0) (slots := 0) (ws := wN ma cI th n sw st b r T sc fi mi fa K) (n := 13) (As := []) (rest := []) hC (k_X3_keep l G cI cZ cJ ma th n sw st b r T sc fi mi fa K (by omega) (by omega)) kg_X3_120 kd_yX3_keep dX3_winner_10 ⟨Nat.le_of_ble_eq_true rfl, Nat.le_of_ble_eq_true rfl⟩ 0 rfl rfl rfl [0, 1, 2, 3, 4, 5, 6] rfl (by decide) rfl (Nat.le_of_ble_eq_true rfl) ⟨Nat.le_of_ble_eq_true rfl, Nat.le_of_ble_eq_true rfl⟩ (ws2 := fun u2 => wN ma cI th n sw st b r T sc fi mi fa (va_cpy (nowF T sc fi mi fa) K 0 0 25)) [] (fun _ => rfl) ([]) (fun _ => rfl) rfl (fun _ => rfl) [ma 0, ma 1, ma 2, ma 3, ma 4, ma 5, ma 6] (fun _ => rfl) rfl rfl rfl (fun u2 h4 => ?_)
  refine z_aload_n (n := 14) hC dX3_winner_13 rfl 0 rfl rfl ?_
  refine z_calli (R := { frames := 3, cells := 0, slots := 0, locals := 68 }) (cells := 0) (slots := 0) (ws := wN ma cI th n sw st b r T sc fi mi fa (va_cpy (nowF T sc fi mi fa) K 0 0 25)) (n := 17) (As := []) (rest := []) hC (k_X3_win l G cI cZ cJ ma th n sw st b r T sc fi mi fa (va_cpy (nowF T sc fi mi fa) K 0 0 25) (by omega) (by omega) hn0 hst) kg_X3_105 kd_yX3_win dX3_winner_14 ⟨Nat.le_of_ble_eq_true rfl, Nat.le_of_ble_eq_true rfl⟩ 0 rfl rfl rfl [0, 1, 2, 3, 4, 5, 6] rfl (by decide) rfl (Nat.le_of_ble_eq_true rfl) ⟨Nat.le_of_ble_eq_true rfl, Nat.le_of_ble_eq_true rfl⟩ (ws2 := fun u5 => wN ma cI th n sw st b r T sc fi mi (waF sw st sc fa n) (va_cpy (nowF T sc fi mi fa) K 0 0 25)) [] (fun _ => rfl) ([]) (fun _ => rfl) rfl (fun _ => rfl) [ma 0, ma 1, ma 2, ma 3, ma 4, ma 5, ma 6] (fun _ => rfl) rfl rfl rfl (fun r6 u5 h7 => ?_)
  subst h7
  refine z_istore_n (lv' := [(1, .int (nI (wnF sw st sc fa n))), (0, .ref (ma 0))]) (n := 18) hC dX3_winner_17 rfl (by decide) rfl rfl ?_
  refine z_aload_n (n := 19) hC dX3_winner_18 rfl 1 rfl rfl ?_
  refine z_callv (R := { frames := 3, cells := 0, slots := 0, locals := 68 }) (cells := 0) (slots := 0) (ws := wN ma cI th n sw st b r T sc fi mi (waF sw st sc fa n) (va_cpy (nowF T sc fi mi fa) K 0 0 25)) (n := 22) (As := []) (rest := []) hC (k_X3_bringBack l G cI cZ cJ ma th n sw st b r T sc fi mi (waF sw st sc fa n) K T sc fi mi fa (fun j hj => waF_tail (by omega))) kg_X3_123 kd_yX3_bringBack dX3_winner_19 ⟨Nat.le_of_ble_eq_true rfl, Nat.le_of_ble_eq_true rfl⟩ 0 rfl rfl rfl [0, 1, 2, 3, 4, 5, 6] rfl (by decide) rfl (Nat.le_of_ble_eq_true rfl) ⟨Nat.le_of_ble_eq_true rfl, Nat.le_of_ble_eq_true rfl⟩ (ws2 := fun u8 => wN ma cI th n sw st b r T sc fi mi fa (va_cpy (nowF T sc fi mi fa) K 0 0 25)) [] (fun _ => rfl) ([]) (fun _ => rfl) rfl (fun _ => rfl) [ma 0, ma 1, ma 2, ma 3, ma 4, ma 5, ma 6] (fun _ => rfl) rfl rfl rfl (fun u8 h10 => ?_)
  refine z_iload_n (n := 23) hC dX3_winner_22 rfl 0 rfl rfl ?_
  refine z_iret hC hr hlocks () ?_ rfl dX3_winner_23 (by omega) (by omega)
  unfold wwF; rw [if_neg (by omega)]

set_option maxRecDepth 100000 in
set_option maxHeartbeats 4000000 in
theorem k_X3_winner_0 (l : Launch) (G : va_G) (cI cZ cJ : ClassId) (ma : Nat → Nat) (th : Int32) (n : Nat) (sw : Nat → Int32) (st : Nat → Int32) (b : Nat → Int32) (r : Nat → Int32) (T : Nat) (sc : Nat → Int32) (fi : Nat → Int32) (mi : Nat → Int32) (fa : Nat → Int32) (K : Nat → Int32) (hn : n ≤ 6) (hT : T + 200 < 2 ^ 29) (hn0 : n = 0) : MI (Unit) l yX3_winner cX3_winner 2 0 0 G (tY cI cZ cJ) [.ref (ma 0)] (wN ma cI th n sw st b r T sc fi mi fa K) (fun zr _ => zr = wwF sw st sc fa n) (fun _ => wN ma cI th n sw st b r T sc fi mi fa K) 0 0 := by
  refine MI_of (by decide) (Nat.le_of_ble_eq_true rfl) [(0, .ref (ma 0))] rfl ?_
  intro p e s m below meth c hC hr hlocks hname
  have hC : Cx p s m _ c cX3_winner 2 RX3 G (tY cI cZ cJ) _ := hC
  refine z_aload_n (n := 1) hC dX3_winner_0 rfl 0 rfl rfl ?_
  refine gf_X3_32 (v := .int (nI n)) (n := 4) hC 0 rfl rfl dX3_winner_1 rfl ?_
  refine z_if_ne (tgt := 9) (n := 7) hC dX3_winner_4 (by decide) rfl (fun c1 => absurd (hn0 ▸ rfl) c1) (fun c1 => ?_)
  refine z_iconst (v := (-1)) (n := 8) hC dX3_winner_7 (by decide) rfl ?_
  refine z_iret hC hr hlocks () ?_ rfl dX3_winner_8 (by omega) (by omega)
  unfold wwF; rw [if_pos hn0]

set_option maxRecDepth 100000 in
set_option maxHeartbeats 4000000 in
theorem k_X3_wouldWin (l : Launch) (G : va_G) (cI cZ cJ : ClassId) (ma : Nat → Nat) (th : Int32) (n : Nat) (sw : Nat → Int32) (st : Nat → Int32) (b : Nat → Int32) (r : Nat → Int32) (T : Nat) (sc : Nat → Int32) (fi : Nat → Int32) (mi : Nat → Int32) (fa : Nat → Int32) (K : Nat → Int32) (hn : n ≤ 6) (hT : T + 200 < 2 ^ 29) (hn0 : 0 < n) (hst : ∀ g, g < n → nI 1 ≤ st g) : MI (Unit) l yX3_wouldWin cX3_wouldWin 1 4 89 G (tY cI cZ cJ) [.ref (ma 0)] (wN ma cI th n sw st b r T sc fi mi fa K) (fun zr _ => zr = wwF sw st sc fa n) (fun _ => wN ma cI (nI 0) n sw st b r T sc fi mi fa (va_cpy (nowF T sc fi mi fa) K 0 0 25)) 0 0 := by
  refine MI_of (by decide) (Nat.le_of_ble_eq_true rfl) [(0, .ref (ma 0))] rfl ?_
  intro p e s m below meth c hC hr hlocks hname
  have hC : Cx p s m _ c cX3_wouldWin 1 RX3 G (tY cI cZ cJ) _ := hC
  refine z_aload_n (n := 1) hC dX3_wouldWin_0 rfl 0 rfl rfl ?_
  refine z_aload_n (n := 2) hC dX3_wouldWin_1 rfl 0 rfl rfl ?_
  refine z_calli (R := { frames := 4, cells := 0, slots := 0, locals := 89 }) (cells := 0) (slots := 0) (ws := wN ma cI th n sw st b r T sc fi mi fa K) (n := 5) (As := []) (rest := [.ref (ma 0)]) hC (k_X3_winner l G cI cZ cJ ma th n sw st b r T sc fi mi fa K (by omega) (by omega) hn0 hst) kg_X3_132 kd_yX3_winner dX3_wouldWin_2 ⟨Nat.le_of_ble_eq_true rfl, Nat.le_of_ble_eq_true rfl⟩ 0 rfl rfl rfl [0, 1, 2, 3, 4, 5, 6] rfl (by decide) rfl (Nat.le_of_ble_eq_true rfl) ⟨Nat.le_of_ble_eq_true rfl, Nat.le_of_ble_eq_true rfl⟩ (ws2 := fun u1 => wN ma cI th n sw st b r T sc fi mi fa (va_cpy (nowF T sc fi mi fa) K 0 0 25)) [] (fun _ => rfl) ([]) (fun _ => rfl) rfl (fun _ => rfl) [ma 0, ma 1, ma 2, ma 3, ma 4, ma 5, ma 6] (fun _ => rfl) rfl rfl rfl (fun r2 u1 h3 => ?_)
  subst h3
  refine z_calli (R := { frames := 4, cells := 0, slots := 0, locals := 89 }) (cells := 0) (slots := 0) (ws := wN ma cI th n sw st b r T sc fi mi fa (va_cpy (nowF T sc fi mi fa) K 0 0 25)) (n := 8) (As := [.int (wwF sw st sc fa n)]) (rest := []) hC (k_X3_ok l G cI cZ cJ ma th n sw st b r T sc fi mi fa (va_cpy (nowF T sc fi mi fa) K 0 0 25) (wwF sw st sc fa n) (by omega) (by omega)) kg_X3_108 kd_yX3_ok dX3_wouldWin_5 ⟨Nat.le_of_ble_eq_true rfl, Nat.le_of_ble_eq_true rfl⟩ 0 rfl rfl rfl [0, 1, 2, 3, 4, 5, 6] rfl (by decide) rfl (Nat.le_of_ble_eq_true rfl) ⟨Nat.le_of_ble_eq_true rfl, Nat.le_of_ble_eq_true rfl⟩ (ws2 := fun u4 => wN ma cI (nI 0) n sw st b r T sc fi mi fa (va_cpy (nowF T sc fi mi fa) K 0 0 25)) [] (fun _ => rfl) ([]) (fun _ => rfl) rfl (fun _ => rfl) [ma 0, ma 1, ma 2, ma 3, ma 4, ma 5, ma 6] (fun _ => rfl) rfl rfl rfl (fun r5 u4 h6 => ?_)
  subst h6
  refine z_iret hC hr hlocks () ?_ rfl dX3_wouldWin_8 (by omega) (by omega)
  rfl

set_option maxRecDepth 100000 in
set_option maxHeartbeats 4000000 in
theorem k_X3_wouldWin_0 (l : Launch) (G : va_G) (cI cZ cJ : ClassId) (ma : Nat → Nat) (th : Int32) (n : Nat) (sw : Nat → Int32) (st : Nat → Int32) (b : Nat → Int32) (r : Nat → Int32) (T : Nat) (sc : Nat → Int32) (fi : Nat → Int32) (mi : Nat → Int32) (fa : Nat → Int32) (K : Nat → Int32) (hn : n ≤ 6) (hT : T + 200 < 2 ^ 29) (hn0 : n = 0) : MI (Unit) l yX3_wouldWin cX3_wouldWin 1 1 21 G (tY cI cZ cJ) [.ref (ma 0)] (wN ma cI th n sw st b r T sc fi mi fa K) (fun zr _ => zr = wwF sw st sc fa n) (fun _ => wN ma cI (nI 0) n sw st b r T sc fi mi fa K) 0 0 := by
  refine MI_of (by decide) (Nat.le_of_ble_eq_true rfl) [(0, .ref (ma 0))] rfl ?_
  intro p e s m below meth c hC hr hlocks hname
  have hC : Cx p s m _ c cX3_wouldWin 1 RX3 G (tY cI cZ cJ) _ := hC
  refine z_aload_n (n := 1) hC dX3_wouldWin_0 rfl 0 rfl rfl ?_
  refine z_aload_n (n := 2) hC dX3_wouldWin_1 rfl 0 rfl rfl ?_
  refine z_calli (R := { frames := 1, cells := 0, slots := 0, locals := 21 }) (cells := 0) (slots := 0) (ws := wN ma cI th n sw st b r T sc fi mi fa K) (n := 5) (As := []) (rest := [.ref (ma 0)]) hC (k_X3_winner_0 l G cI cZ cJ ma th n sw st b r T sc fi mi fa K (by omega) (by omega) hn0) kg_X3_132 kd_yX3_winner dX3_wouldWin_2 ⟨Nat.le_of_ble_eq_true rfl, Nat.le_of_ble_eq_true rfl⟩ 0 rfl rfl rfl [0, 1, 2, 3, 4, 5, 6] rfl (by decide) rfl (Nat.le_of_ble_eq_true rfl) ⟨Nat.le_of_ble_eq_true rfl, Nat.le_of_ble_eq_true rfl⟩ (ws2 := fun u1 => wN ma cI th n sw st b r T sc fi mi fa K) [] (fun _ => rfl) ([]) (fun _ => rfl) rfl (fun _ => rfl) [ma 0, ma 1, ma 2, ma 3, ma 4, ma 5, ma 6] (fun _ => rfl) rfl rfl rfl (fun r2 u1 h3 => ?_)
  subst h3
  refine z_calli (R := { frames := 1, cells := 0, slots := 0, locals := 21 }) (cells := 0) (slots := 0) (ws := wN ma cI th n sw st b r T sc fi mi fa K) (n := 8) (As := [.int (wwF sw st sc fa n)]) (rest := []) hC (k_X3_ok l G cI cZ cJ ma th n sw st b r T sc fi mi fa K (wwF sw st sc fa n) (by omega) (by omega)) kg_X3_108 kd_yX3_ok dX3_wouldWin_5 ⟨Nat.le_of_ble_eq_true rfl, Nat.le_of_ble_eq_true rfl⟩ 0 rfl rfl rfl [0, 1, 2, 3, 4, 5, 6] rfl (by decide) rfl (Nat.le_of_ble_eq_true rfl) ⟨Nat.le_of_ble_eq_true rfl, Nat.le_of_ble_eq_true rfl⟩ (ws2 := fun u4 => wN ma cI (nI 0) n sw st b r T sc fi mi fa K) [] (fun _ => rfl) ([]) (fun _ => rfl) rfl (fun _ => rfl) [ma 0, ma 1, ma 2, ma 3, ma 4, ma 5, ma 6] (fun _ => rfl) rfl rfl rfl (fun r5 u4 h6 => ?_)
  subst h6
  refine z_iret hC hr hlocks () ?_ rfl dX3_wouldWin_8 (by omega) (by omega)
  rfl

set_option maxRecDepth 100000 in
set_option maxHeartbeats 4000000 in
theorem k_X3_swingWanted (l : Launch) (G : va_G) (cI cZ cJ : ClassId) (ma : Nat → Nat) (th : Int32) (n : Nat) (sw : Nat → Int32) (st : Nat → Int32) (b : Nat → Int32) (r : Nat → Int32) (T : Nat) (sc : Nat → Int32) (fi : Nat → Int32) (mi : Nat → Int32) (fa : Nat → Int32) (K : Nat → Int32) (g : Nat) (hn : n ≤ 6) (hT : T + 200 < 2 ^ 29) (hg : g < n) : MI (Unit) l yX3_swingWanted cX3_swingWanted 4 2 45 G (tY cI cZ cJ) [.ref (ma 0), .int (nI g)] (wN ma cI th n sw st b r T sc fi mi fa K) (fun zr _ => zr = swF b r) (fun _ => wN ma cI (nI 0) n sw st b r T sc fi mi fa K) 0 0 := by
  refine MI_of (by decide) (Nat.le_of_ble_eq_true rfl) [(0, .ref (ma 0)), (1, .int (nI g))] rfl ?_
  intro p e s m below meth c hC hr hlocks hname
  have hC : Cx p s m _ c cX3_swingWanted 4 RX3 G (tY cI cZ cJ) _ := hC
  refine z_aload_n (n := 1) hC dX3_swingWanted_0 rfl 0 rfl rfl ?_
  refine z_iconst (v := nI 0) (n := 2) hC dX3_swingWanted_1 (by decide) rfl ?_
  refine pf_X3_28 (ws' := wN ma cI (nI 0) n sw st b r T sc fi mi fa K) (n := 5) hC 0 rfl (Nat.le_of_ble_eq_true rfl) dX3_swingWanted_2 rfl rfl ?_
  refine z_aload_n (n := 6) hC dX3_swingWanted_5 rfl 0 rfl rfl ?_
  refine z_iload_n (n := 7) hC dX3_swingWanted_6 rfl 1 rfl rfl ?_
  refine z_callb (R := { frames := 2, cells := 0, slots := 0, locals := 45 }) (cells := 0) (slots := 0) (ws := wN ma cI (nI 0) n sw st b r T sc fi mi fa K) (n := 10) (As := [.int (nI g)]) (rest := []) hC (k_X3_isGun_t l G cI cZ cJ ma (nI 0) n sw st b r T sc fi mi fa K g (by omega) hg) kg_X3_95 kd_yX3_isGun dX3_swingWanted_7 ⟨Nat.le_of_ble_eq_true rfl, Nat.le_of_ble_eq_true rfl⟩ 0 rfl rfl rfl [0, 1, 2, 3, 4, 5, 6] rfl (by decide) rfl (Nat.le_of_ble_eq_true rfl) ⟨Nat.le_of_ble_eq_true rfl, Nat.le_of_ble_eq_true rfl⟩ (ws2 := fun u1 => wN ma cI (nI 0) n sw st b r T sc fi mi fa K) [] (fun _ => rfl) ([]) (fun _ => rfl) rfl (fun _ => rfl) [ma 0, ma 1, ma 2, ma 3, ma 4, ma 5, ma 6] (fun _ => rfl) rfl rfl rfl (fun r2 u1 h3 => ?_)
  subst h3
  refine z_if_ne_b (tgt := 19) (n := 13) hC true rfl dX3_swingWanted_10 (by decide) rfl (fun c4 => ?_) (fun c4 => absurd c4 (by decide))
  refine z_iconst (v := nI 5) (n := 20) hC dX3_swingWanted_19 (by decide) rfl ?_
  refine z_istore_n (lv' := [(2, .int (nI 5)), (0, .ref (ma 0)), (1, .int (nI g))]) (n := 21) hC dX3_swingWanted_20 rfl (by decide) rfl rfl ?_
  refine z_iconst (v := nI 0) (n := 22) hC dX3_swingWanted_21 (by decide) rfl ?_
  refine z_istore_n (lv' := [(3, .int (nI 0)), (2, .int (nI 5)), (0, .ref (ma 0)), (1, .int (nI g))]) (n := 23) hC dX3_swingWanted_22 rfl (by decide) rfl rfl ?_
  refine z_lv [2, 3, 1, 0] (lv' := [(0, .ref (ma 0)), (1, .int (nI g)), (2, .int (grF b r (nI 5) 0)), (3, .int (nI 0))]) rfl ?_
  refine z_loop 5 0 (fun i => wN ma cI (nI 0) n sw st b r T sc fi mi fa K) (fun i => [(0, .ref (ma 0)), (1, .int (nI g)), (2, .int (grF b r (nI 5) i)), (3, .int (nI i))]) (by omega) rfl rfl (fun i hi0 hi1 ih => ?_)
  have hle := haF_le b r i 4
  refine z_iload_n (n := 24) hC dX3_swingWanted_23 rfl 3 rfl rfl ?_
  refine z_iconst (v := nI 5) (n := 25) hC dX3_swingWanted_24 (by decide) rfl ?_
  refine z_icmp_ge_n (tgt := 52) (n := 28) hC i 5 rfl rfl (by omega) (by omega) dX3_swingWanted_25 (by decide) rfl (fun c5 => ?_) (fun c5 => ?_)
  · obtain rfl : 5 = i := by omega
    refine z_iload_n (n := 53) hC dX3_swingWanted_52 rfl 2 rfl rfl ?_
    refine z_bipush (v := nI 60) (n := 55) hC dX3_swingWanted_53 (by decide) rfl ?_
    refine z_icmp_le (tgt := 62) (n := 58) hC dX3_swingWanted_55 (by decide) rfl (fun c6 => ?_) (fun c6 => ?_)
    · refine z_iload_n (n := 63) hC dX3_swingWanted_62 rfl 2 rfl rfl ?_
      refine z_iret hC hr hlocks () ?_ rfl dX3_swingWanted_63 (by omega) (by omega)
      unfold swF; rw [swF_eq]; simp only [if_pos c5, if_pos c6]
    · refine z_iconst (v := (-1)) (n := 59) hC dX3_swingWanted_58 (by decide) rfl ?_
      refine z_goto (n := 63) hC dX3_swingWanted_59 (by decide) ?_
      refine z_iret hC hr hlocks () ?_ rfl dX3_swingWanted_63 (by omega) (by omega)
      unfold swF; rw [swF_eq]; simp only [if_pos c5, if_neg c6]
  · refine z_iload_n (n := 29) hC dX3_swingWanted_28 rfl 2 rfl rfl ?_
    refine z_aload_n (n := 30) hC dX3_swingWanted_29 rfl 0 rfl rfl ?_
    refine z_iload_n (n := 31) hC dX3_swingWanted_30 rfl 3 rfl rfl ?_
    refine z_aload_n (n := 32) hC dX3_swingWanted_31 rfl 0 rfl rfl ?_
    refine z_iload_n (n := 33) hC dX3_swingWanted_32 rfl 3 rfl rfl ?_
    refine z_calli (R := { frames := 2, cells := 0, slots := 0, locals := 45 }) (cells := 0) (slots := 0) (ws := wN ma cI (nI 0) n sw st b r T sc fi mi fa K) (n := 36) (As := [.int (nI i)]) (rest := [.int (nI i), .ref (ma 0), .int (grF b r (nI 5) i)]) hC (k_X3_hardest l G cI cZ cJ ma (nI 0) n sw st b r T sc fi mi fa K i (by omega) (by omega) (by omega)) kg_X3_111 kd_yX3_hardest dX3_swingWanted_33 ⟨Nat.le_of_ble_eq_true rfl, Nat.le_of_ble_eq_true rfl⟩ 0 rfl rfl rfl [0, 1, 2, 3, 4, 5, 6] rfl (by decide) rfl (Nat.le_of_ble_eq_true rfl) ⟨Nat.le_of_ble_eq_true rfl, Nat.le_of_ble_eq_true rfl⟩ (ws2 := fun u7 => wN ma cI (nI 0) n sw st b r T sc fi mi fa K) [] (fun _ => rfl) ([]) (fun _ => rfl) rfl (fun _ => rfl) [ma 0, ma 1, ma 2, ma 3, ma 4, ma 5, ma 6] (fun _ => rfl) rfl rfl rfl (fun r8 u7 h9 => ?_)
    subst h9
    refine z_calli (R := { frames := 2, cells := 0, slots := 0, locals := 45 }) (cells := 0) (slots := 0) (ws := wN ma cI (nI 0) n sw st b r T sc fi mi fa K) (n := 39) (As := [.int (nI i), .int (nI (haF b r i 4))]) (rest := [.int (grF b r (nI 5) i)]) hC (k_X3_at l G cI cZ cJ ma (nI 0) n sw st b r T sc fi mi fa K i (haF b r i 4) (by omega) (by omega) (by omega)) kg_X3_53 kd_yX3_at dX3_swingWanted_36 ⟨Nat.le_of_ble_eq_true rfl, Nat.le_of_ble_eq_true rfl⟩ 0 rfl rfl rfl [0, 1, 2, 3, 4, 5, 6] rfl (by decide) rfl (Nat.le_of_ble_eq_true rfl) ⟨Nat.le_of_ble_eq_true rfl, Nat.le_of_ble_eq_true rfl⟩ (ws2 := fun u10 => wN ma cI (nI 0) n sw st b r T sc fi mi fa K) [] (fun _ => rfl) ([]) (fun _ => rfl) rfl (fun _ => rfl) [ma 0, ma 1, ma 2, ma 3, ma 4, ma 5, ma 6] (fun _ => rfl) rfl rfl rfl (fun r11 u10 h12 => ?_)
    subst h12
    refine z_mabs (v := absF (angF b r i (haF b r i 4))) (n := 42) hC q454 q637 q173 q639 (by decide) (Nat.le_of_ble_eq_true rfl) (by omega) (by omega) dX3_swingWanted_39 rfl rfl ?_
    refine z_mmax (v := maxF (grF b r (nI 5) i) (absF (angF b r i (haF b r i 4)))) (n := 45) hC q455 q638 q173 q640 (by decide) (Nat.le_of_ble_eq_true rfl) (by omega) (by omega) dX3_swingWanted_42 rfl rfl ?_
    refine z_istore_n (lv' := [(2, .int (maxF (grF b r (nI 5) i) (absF (angF b r i (haF b r i 4))))), (0, .ref (ma 0)), (1, .int (nI g)), (3, .int (nI i))]) (n := 46) hC dX3_swingWanted_45 rfl (by decide) rfl rfl ?_
    refine z_iinc (k0 := 3) (v := nI (i + 1)) (lv' := [(3, .int (nI (i + 1))), (2, .int (maxF (grF b r (nI 5) i) (absF (angF b r i (haF b r i 4))))), (0, .ref (ma 0)), (1, .int (nI g))]) (n := 49) hC dX3_swingWanted_46 rfl (nI_add i 1) (by decide) rfl rfl ?_
    refine z_goto (n := 23) hC dX3_swingWanted_49 (by decide) ?_
    refine z_lv [2, 3, 1, 0] (lv' := [(0, .ref (ma 0)), (1, .int (nI g)), (2, .int (grF b r (nI 5) (i + 1))), (3, .int (nI (i + 1)))]) rfl ?_
    exact ih (i + 1) (by omega) (by omega)

set_option maxRecDepth 100000 in
set_option maxHeartbeats 4000000 in
theorem k_X3_swingWanted_x (l : Launch) (G : va_G) (cI cZ cJ : ClassId) (ma : Nat → Nat) (th : Int32) (n : Nat) (sw : Nat → Int32) (st : Nat → Int32) (b : Nat → Int32) (r : Nat → Int32) (T : Nat) (sc : Nat → Int32) (fi : Nat → Int32) (mi : Nat → Int32) (fa : Nat → Int32) (K : Nat → Int32) (x : Int32) (hn : n ≤ 6) (hT : T + 200 < 2 ^ 29) (hb : x < 0 ∨ nI n ≤ x) : MI (Unit) l yX3_swingWanted cX3_swingWanted 4 2 43 G (tY cI cZ cJ) [.ref (ma 0), .int x] (wN ma cI th n sw st b r T sc fi mi fa K) (fun zr _ => zr = nI 0) (fun _ => wN ma cI (nI 1) n sw st b r T sc fi mi fa K) 0 0 := by
  refine MI_of (by decide) (Nat.le_of_ble_eq_true rfl) [(0, .ref (ma 0)), (1, .int x)] rfl ?_
  intro p e s m below meth c hC hr hlocks hname
  have hC : Cx p s m _ c cX3_swingWanted 4 RX3 G (tY cI cZ cJ) _ := hC
  refine z_aload_n (n := 1) hC dX3_swingWanted_0 rfl 0 rfl rfl ?_
  refine z_iconst (v := nI 0) (n := 2) hC dX3_swingWanted_1 (by decide) rfl ?_
  refine pf_X3_28 (ws' := wN ma cI (nI 0) n sw st b r T sc fi mi fa K) (n := 5) hC 0 rfl (Nat.le_of_ble_eq_true rfl) dX3_swingWanted_2 rfl rfl ?_
  refine z_aload_n (n := 6) hC dX3_swingWanted_5 rfl 0 rfl rfl ?_
  refine z_iload_n (n := 7) hC dX3_swingWanted_6 rfl 1 rfl rfl ?_
  refine z_callb (R := { frames := 2, cells := 0, slots := 0, locals := 43 }) (cells := 0) (slots := 0) (ws := wN ma cI (nI 0) n sw st b r T sc fi mi fa K) (n := 10) (As := [.int x]) (rest := []) hC (k_X3_isGun_f l G cI cZ cJ ma (nI 0) n sw st b r T sc fi mi fa K x (by omega) hb) kg_X3_95 kd_yX3_isGun dX3_swingWanted_7 ⟨Nat.le_of_ble_eq_true rfl, Nat.le_of_ble_eq_true rfl⟩ 0 rfl rfl rfl [0, 1, 2, 3, 4, 5, 6] rfl (by decide) rfl (Nat.le_of_ble_eq_true rfl) ⟨Nat.le_of_ble_eq_true rfl, Nat.le_of_ble_eq_true rfl⟩ (ws2 := fun u1 => wN ma cI (nI 0) n sw st b r T sc fi mi fa K) [] (fun _ => rfl) ([]) (fun _ => rfl) rfl (fun _ => rfl) [ma 0, ma 1, ma 2, ma 3, ma 4, ma 5, ma 6] (fun _ => rfl) rfl rfl rfl (fun r2 u1 h3 => ?_)
  subst h3
  refine z_if_ne_b (tgt := 19) (n := 13) hC false rfl dX3_swingWanted_10 (by decide) rfl (fun c4 => absurd c4 (by decide)) (fun c4 => ?_)
  refine z_aload_n (n := 14) hC dX3_swingWanted_13 rfl 0 rfl rfl ?_
  refine z_iconst (v := nI 1) (n := 15) hC dX3_swingWanted_14 (by decide) rfl ?_
  refine z_calli (R := { frames := 2, cells := 0, slots := 0, locals := 43 }) (cells := 0) (slots := 0) (ws := wN ma cI (nI 0) n sw st b r T sc fi mi fa K) (n := 18) (As := [.int (nI 1)]) (rest := []) hC (k_X3_no l G cI cZ cJ ma (nI 0) n sw st b r T sc fi mi fa K (nI 1) (by omega) (by omega)) kg_X3_92 kd_yX3_no dX3_swingWanted_15 ⟨Nat.le_of_ble_eq_true rfl, Nat.le_of_ble_eq_true rfl⟩ 0 rfl rfl rfl [0, 1, 2, 3, 4, 5, 6] rfl (by decide) rfl (Nat.le_of_ble_eq_true rfl) ⟨Nat.le_of_ble_eq_true rfl, Nat.le_of_ble_eq_true rfl⟩ (ws2 := fun u5 => wN ma cI (nI 1) n sw st b r T sc fi mi fa K) [] (fun _ => rfl) ([]) (fun _ => rfl) rfl (fun _ => rfl) [ma 0, ma 1, ma 2, ma 3, ma 4, ma 5, ma 6] (fun _ => rfl) rfl rfl rfl (fun r6 u5 h7 => ?_)
  subst h7
  refine z_iret hC hr hlocks () ?_ rfl dX3_swingWanted_18 (by omega) (by omega)
  rfl

set_option maxRecDepth 100000 in
set_option maxHeartbeats 4000000 in
theorem k_X3_meanScore (l : Launch) (G : va_G) (cI cZ cJ : ClassId) (ma : Nat → Nat) (th : Int32) (n : Nat) (sw : Nat → Int32) (st : Nat → Int32) (b : Nat → Int32) (r : Nat → Int32) (T : Nat) (sc : Nat → Int32) (fi : Nat → Int32) (mi : Nat → Int32) (fa : Nat → Int32) (K : Nat → Int32) (hn : n ≤ 6) (hT : T + 200 < 2 ^ 29) (hn0 : 0 < n) : MD (Unit) l yX3_meanScore cX3_meanScore 3 0 0 G (tY cI cZ cJ) [.ref (ma 0)] (wN ma cI th n sw st b r T sc fi mi fa K) (fun zr _ => zr = meF sc n) (fun _ => wN ma cI (nI 0) n sw st b r T sc fi mi fa K) 0 0 := by
  refine MD_of (by decide) (Nat.le_of_ble_eq_true rfl) [(0, .ref (ma 0))] rfl ?_
  intro p e s m below meth c hC hr hlocks hname
  have hC : Cx p s m _ c cX3_meanScore 3 RX3 G (tY cI cZ cJ) _ := hC
  refine z_aload_n (n := 1) hC dX3_meanScore_0 rfl 0 rfl rfl ?_
  refine z_iconst (v := nI 0) (n := 2) hC dX3_meanScore_1 (by decide) rfl ?_
  refine pf_X3_28 (ws' := wN ma cI (nI 0) n sw st b r T sc fi mi fa K) (n := 5) hC 0 rfl (Nat.le_of_ble_eq_true rfl) dX3_meanScore_2 rfl rfl ?_
  refine z_iconst (v := nI 0) (n := 6) hC dX3_meanScore_5 (by decide) rfl ?_
  refine z_istore_n (lv' := [(1, .int (nI 0)), (0, .ref (ma 0))]) (n := 7) hC dX3_meanScore_6 rfl (by decide) rfl rfl ?_
  refine z_iconst (v := nI 0) (n := 8) hC dX3_meanScore_7 (by decide) rfl ?_
  refine z_istore_n (lv' := [(2, .int (nI 0)), (1, .int (nI 0)), (0, .ref (ma 0))]) (n := 9) hC dX3_meanScore_8 rfl (by decide) rfl rfl ?_
  refine z_lv [2, 1, 0] (lv' := [(0, .ref (ma 0)), (1, .int (smF sc 0)), (2, .int (nI 0))]) rfl ?_
  refine z_loop n 0 (fun i => wN ma cI (nI 0) n sw st b r T sc fi mi fa K) (fun i => [(0, .ref (ma 0)), (1, .int (smF sc i)), (2, .int (nI i))]) (by omega) rfl rfl (fun i hi0 hi1 ih => ?_)
  refine z_iload_n (n := 10) hC dX3_meanScore_9 rfl 2 rfl rfl ?_
  refine z_aload_n (n := 11) hC dX3_meanScore_10 rfl 0 rfl rfl ?_
  refine gf_X3_32 (v := .int (nI n)) (n := 14) hC 0 rfl rfl dX3_meanScore_11 rfl ?_
  refine z_icmp_ge_n (tgt := 34) (n := 17) hC i n rfl rfl (by omega) (by omega) dX3_meanScore_14 (by decide) rfl (fun c1 => ?_) (fun c1 => ?_)
  · obtain rfl : n = i := by omega
    refine z_aload_n (n := 35) hC dX3_meanScore_34 rfl 0 rfl rfl ?_
    refine gf_X3_32 (v := .int (nI n)) (n := 38) hC 0 rfl rfl dX3_meanScore_35 rfl ?_
    refine z_if_ne (tgt := 45) (n := 41) hC dX3_meanScore_38 (by decide) rfl (fun c2 => ?_) (fun c2 => absurd c2 (nI_ne0 hn0 (by omega)))
    refine z_iload_n (n := 46) hC dX3_meanScore_45 rfl 1 rfl rfl ?_
    refine z_i2d (n := 47) hC dX3_meanScore_46 rfl ?_
    refine z_aload_n (n := 48) hC dX3_meanScore_47 rfl 0 rfl rfl ?_
    refine gf_X3_32 (v := .int (nI n)) (n := 51) hC 0 rfl rfl dX3_meanScore_48 rfl ?_
    refine z_i2d (n := 52) hC dX3_meanScore_51 rfl ?_
    refine z_ddiv (n := 53) hC dX3_meanScore_52 (nnan _ hn0 hn) rfl ?_
    refine z_dret hC hr hlocks () ?_ rfl dX3_meanScore_53 (by omega) (by omega)
    unfold meF; rw [if_neg (by omega)]
  · refine z_iload_n (n := 18) hC dX3_meanScore_17 rfl 1 rfl rfl ?_
    refine z_aload_n (n := 19) hC dX3_meanScore_18 rfl 0 rfl rfl ?_
    refine gf_X3_22 (v := .ref (ma 5)) (n := 22) hC 0 rfl rfl dX3_meanScore_19 rfl ?_
    refine z_iconst (v := nI 1) (n := 23) hC dX3_meanScore_22 (by decide) rfl ?_
    refine z_iload_n (n := 24) hC dX3_meanScore_23 rfl 2 rfl rfl ?_
    refine z_iadd (v := nI (1 + i)) (n := 25) hC dX3_meanScore_24 (nI_add 1 i) rfl ?_
    refine z_iald (v := sc i) (n := 26) hC 5 0 (1 + i) rfl rfl rfl (by omega) (by decide) dX3_meanScore_25 (nw_sc (by omega)) rfl ?_
    refine z_iadd (v := (smF sc i) + (sc i)) (n := 27) hC dX3_meanScore_26 rfl rfl ?_
    refine z_istore_n (lv' := [(1, .int ((smF sc i) + (sc i))), (0, .ref (ma 0)), (2, .int (nI i))]) (n := 28) hC dX3_meanScore_27 rfl (by decide) rfl rfl ?_
    refine z_iinc (k0 := 2) (v := nI (i + 1)) (lv' := [(2, .int (nI (i + 1))), (1, .int ((smF sc i) + (sc i))), (0, .ref (ma 0))]) (n := 31) hC dX3_meanScore_28 rfl (nI_add i 1) (by decide) rfl rfl ?_
    refine z_goto (n := 9) hC dX3_meanScore_31 (by decide) ?_
    refine z_lv [2, 1, 0] (lv' := [(0, .ref (ma 0)), (1, .int (smF sc (i + 1))), (2, .int (nI (i + 1)))]) rfl ?_
    exact ih (i + 1) (by omega) (by omega)

set_option maxRecDepth 100000 in
set_option maxHeartbeats 4000000 in
theorem k_X3_meanScore_0 (l : Launch) (G : va_G) (cI cZ cJ : ClassId) (ma : Nat → Nat) (th : Int32) (n : Nat) (sw : Nat → Int32) (st : Nat → Int32) (b : Nat → Int32) (r : Nat → Int32) (T : Nat) (sc : Nat → Int32) (fi : Nat → Int32) (mi : Nat → Int32) (fa : Nat → Int32) (K : Nat → Int32) (hn : n ≤ 6) (hT : T + 200 < 2 ^ 29) (hn0 : n = 0) : MD (Unit) l yX3_meanScore cX3_meanScore 3 0 0 G (tY cI cZ cJ) [.ref (ma 0)] (wN ma cI th n sw st b r T sc fi mi fa K) (fun zr _ => zr = meF sc n) (fun _ => wN ma cI (nI 0) n sw st b r T sc fi mi fa K) 0 0 := by
  refine MD_of (by decide) (Nat.le_of_ble_eq_true rfl) [(0, .ref (ma 0))] rfl ?_
  intro p e s m below meth c hC hr hlocks hname
  have hC : Cx p s m _ c cX3_meanScore 3 RX3 G (tY cI cZ cJ) _ := hC
  refine z_aload_n (n := 1) hC dX3_meanScore_0 rfl 0 rfl rfl ?_
  refine z_iconst (v := nI 0) (n := 2) hC dX3_meanScore_1 (by decide) rfl ?_
  refine pf_X3_28 (ws' := wN ma cI (nI 0) n sw st b r T sc fi mi fa K) (n := 5) hC 0 rfl (Nat.le_of_ble_eq_true rfl) dX3_meanScore_2 rfl rfl ?_
  refine z_iconst (v := nI 0) (n := 6) hC dX3_meanScore_5 (by decide) rfl ?_
  refine z_istore_n (lv' := [(1, .int (nI 0)), (0, .ref (ma 0))]) (n := 7) hC dX3_meanScore_6 rfl (by decide) rfl rfl ?_
  refine z_iconst (v := nI 0) (n := 8) hC dX3_meanScore_7 (by decide) rfl ?_
  refine z_istore_n (lv' := [(2, .int (nI 0)), (1, .int (nI 0)), (0, .ref (ma 0))]) (n := 9) hC dX3_meanScore_8 rfl (by decide) rfl rfl ?_
  refine z_lv [2, 1, 0] (lv' := [(0, .ref (ma 0)), (1, .int (smF sc 0)), (2, .int (nI 0))]) rfl ?_
  refine z_loop n 0 (fun i => wN ma cI (nI 0) n sw st b r T sc fi mi fa K) (fun i => [(0, .ref (ma 0)), (1, .int (smF sc i)), (2, .int (nI i))]) (by omega) rfl rfl (fun i hi0 hi1 ih => ?_)
  refine z_iload_n (n := 10) hC dX3_meanScore_9 rfl 2 rfl rfl ?_
  refine z_aload_n (n := 11) hC dX3_meanScore_10 rfl 0 rfl rfl ?_
  refine gf_X3_32 (v := .int (nI n)) (n := 14) hC 0 rfl rfl dX3_meanScore_11 rfl ?_
  refine z_icmp_ge_n (tgt := 34) (n := 17) hC i n rfl rfl (by omega) (by omega) dX3_meanScore_14 (by decide) rfl (fun c1 => ?_) (fun c1 => ?_)
  · obtain rfl : n = i := by omega
    refine z_aload_n (n := 35) hC dX3_meanScore_34 rfl 0 rfl rfl ?_
    refine gf_X3_32 (v := .int (nI n)) (n := 38) hC 0 rfl rfl dX3_meanScore_35 rfl ?_
    refine z_if_ne (tgt := 45) (n := 41) hC dX3_meanScore_38 (by decide) rfl (fun c2 => absurd (hn0 ▸ rfl) c2) (fun c2 => ?_)
    refine z_dconst0 (n := 42) hC dX3_meanScore_41 rfl ?_
    refine z_goto (n := 53) hC dX3_meanScore_42 (by decide) ?_
    refine z_dret hC hr hlocks () ?_ rfl dX3_meanScore_53 (by omega) (by omega)
    unfold meF; rw [if_pos hn0]
  · refine z_iload_n (n := 18) hC dX3_meanScore_17 rfl 1 rfl rfl ?_
    refine z_aload_n (n := 19) hC dX3_meanScore_18 rfl 0 rfl rfl ?_
    refine gf_X3_22 (v := .ref (ma 5)) (n := 22) hC 0 rfl rfl dX3_meanScore_19 rfl ?_
    refine z_iconst (v := nI 1) (n := 23) hC dX3_meanScore_22 (by decide) rfl ?_
    refine z_iload_n (n := 24) hC dX3_meanScore_23 rfl 2 rfl rfl ?_
    refine z_iadd (v := nI (1 + i)) (n := 25) hC dX3_meanScore_24 (nI_add 1 i) rfl ?_
    refine z_iald (v := sc i) (n := 26) hC 5 0 (1 + i) rfl rfl rfl (by omega) (by decide) dX3_meanScore_25 (nw_sc (by omega)) rfl ?_
    refine z_iadd (v := (smF sc i) + (sc i)) (n := 27) hC dX3_meanScore_26 rfl rfl ?_
    refine z_istore_n (lv' := [(1, .int ((smF sc i) + (sc i))), (0, .ref (ma 0)), (2, .int (nI i))]) (n := 28) hC dX3_meanScore_27 rfl (by decide) rfl rfl ?_
    refine z_iinc (k0 := 2) (v := nI (i + 1)) (lv' := [(2, .int (nI (i + 1))), (1, .int ((smF sc i) + (sc i))), (0, .ref (ma 0))]) (n := 31) hC dX3_meanScore_28 rfl (nI_add i 1) (by decide) rfl rfl ?_
    refine z_goto (n := 9) hC dX3_meanScore_31 (by decide) ?_
    refine z_lv [2, 1, 0] (lv' := [(0, .ref (ma 0)), (1, .int (smF sc (i + 1))), (2, .int (nI (i + 1)))]) rfl ?_
    exact ih (i + 1) (by omega) (by omega)

set_option maxRecDepth 100000 in
set_option maxHeartbeats 4000000 in
theorem k_X3_restFor (l : Launch) (G : va_G) (cI cZ cJ : ClassId) (ma : Nat → Nat) (th : Int32) (n : Nat) (sw : Nat → Int32) (st : Nat → Int32) (b : Nat → Int32) (r : Nat → Int32) (T : Nat) (sc : Nat → Int32) (fi : Nat → Int32) (mi : Nat → Int32) (fa : Nat → Int32) (K : Nat → Int32) (g : Nat) (hn : n ≤ 6) (hT : T + 200 < 2 ^ 29) (hg : g < n) (hst : ∀ g, g < n → nI 1 ≤ st g) : MI (Unit) l yX3_restFor cX3_restFor 6 6 129 G (tY cI cZ cJ) [.ref (ma 0), .int (nI g)] (wN ma cI th n sw st b r T sc fi mi fa K) (fun zr _ => zr = nI (brF (reF sw st b r sc fi mi fa T g) 20)) (fun _ => wN ma cI th n sw st b r T sc fi mi fa (va_cpy (nowF T sc fi mi fa) K 0 0 25)) 0 0 := by
  refine MI_of (by decide) (Nat.le_of_ble_eq_true rfl) [(0, .ref (ma 0)), (1, .int (nI g))] rfl ?_
  intro p e s m below meth c hC hr hlocks hname
  have hC : Cx p s m _ c cX3_restFor 6 RX3 G (tY cI cZ cJ) _ := hC
  refine z_aload_n (n := 1) hC dX3_restFor_0 rfl 0 rfl rfl ?_
  refine z_callv (R := { frames := 6, cells := 0, slots := 0, locals := 129 }) (cells := 0) (slots := 0) (ws := wN ma cI th n sw st b r T sc fi mi fa K) (n := 4) (As := []) (rest := []) hC (k_X3_keep l G cI cZ cJ ma th n sw st b r T sc fi mi fa K (by omega) (by omega)) kg_X3_120 kd_yX3_keep dX3_restFor_1 ⟨Nat.le_of_ble_eq_true rfl, Nat.le_of_ble_eq_true rfl⟩ 0 rfl rfl rfl [0, 1, 2, 3, 4, 5, 6] rfl (by decide) rfl (Nat.le_of_ble_eq_true rfl) ⟨Nat.le_of_ble_eq_true rfl, Nat.le_of_ble_eq_true rfl⟩ (ws2 := fun u1 => wN ma cI th n sw st b r T sc fi mi fa (va_cpy (nowF T sc fi mi fa) K 0 0 25)) [] (fun _ => rfl) ([]) (fun _ => rfl) rfl (fun _ => rfl) [ma 0, ma 1, ma 2, ma 3, ma 4, ma 5, ma 6] (fun _ => rfl) rfl rfl rfl (fun u1 h3 => ?_)
  refine z_iconst (v := (-1)) (n := 5) hC dX3_restFor_4 (by decide) rfl ?_
  refine z_istore_n (lv' := [(2, .int (-1)), (0, .ref (ma 0)), (1, .int (nI g))]) (n := 6) hC dX3_restFor_5 rfl (by decide) rfl rfl ?_
  refine z_iconst (v := nI 0) (n := 7) hC dX3_restFor_6 (by decide) rfl ?_
  refine z_istore_n (lv' := [(3, .int (nI 0)), (2, .int (-1)), (0, .ref (ma 0)), (1, .int (nI g))]) (n := 8) hC dX3_restFor_7 rfl (by decide) rfl rfl ?_
  refine z_iconst (v := nI 0) (n := 9) hC dX3_restFor_8 (by decide) rfl ?_
  refine z_istore (lv' := [(4, .int (nI 0)), (3, .int (nI 0)), (2, .int (-1)), (0, .ref (ma 0)), (1, .int (nI g))]) (n := 11) hC dX3_restFor_9 (by decide) rfl rfl ?_
  refine z_lv [3, 4, 2, 1, 0] (lv' := [(0, .ref (ma 0)), (1, .int (nI g)), (2, .int (bsI (reF sw st b r sc fi mi fa T g) 0)), (3, .int (moI (reF sw st b r sc fi mi fa T g) 0)), (4, .int (nI 0))]) rfl ?_
  refine z_loop 21 0 (fun i => wN ma cI th n sw st b r T sc fi mi fa (va_cpy (nowF T sc fi mi fa) K 0 0 25)) (fun i => [(0, .ref (ma 0)), (1, .int (nI g)), (2, .int (bsI (reF sw st b r sc fi mi fa T g) i)), (3, .int (moI (reF sw st b r sc fi mi fa T g) i)), (4, .int (nI i))]) (by omega) rfl rfl (fun i hi0 hi1 ih => ?_)
  refine z_iload (n := 13) hC dX3_restFor_11 4 rfl rfl ?_
  refine z_bipush (v := nI 20) (n := 15) hC dX3_restFor_13 (by decide) rfl ?_
  refine z_icmp_gt_n (tgt := 83) (n := 18) hC i 20 rfl rfl (by omega) (by omega) dX3_restFor_15 (by decide) rfl (fun c4 => ?_) (fun c4 => ?_)
  · obtain rfl : 21 = i := by omega
    refine z_iload_n (n := 84) hC dX3_restFor_83 rfl 2 rfl rfl ?_
    refine z_iret hC hr hlocks () ?_ rfl dX3_restFor_84 (by omega) (by omega)
    rfl
  · refine z_aload_n (n := 19) hC dX3_restFor_18 rfl 0 rfl rfl ?_
    refine z_iload (n := 21) hC dX3_restFor_19 4 rfl rfl ?_
    refine z_callv (R := { frames := 6, cells := 0, slots := 0, locals := 129 }) (cells := 0) (slots := 0) (ws := wN ma cI th n sw st b r T sc fi mi fa (va_cpy (nowF T sc fi mi fa) K 0 0 25)) (n := 24) (As := [.int (nI i)]) (rest := []) hC (k_X3_turnsOn l G cI cZ cJ ma th n sw st b r T sc fi mi fa (va_cpy (nowF T sc fi mi fa) K 0 0 25) i (by omega) (by omega) (by omega) hst) kg_X3_102 kd_yX3_turnsOn dX3_restFor_21 ⟨Nat.le_of_ble_eq_true rfl, Nat.le_of_ble_eq_true rfl⟩ 0 rfl rfl rfl [0, 1, 2, 3, 4, 5, 6] rfl (by decide) rfl (Nat.le_of_ble_eq_true rfl) ⟨Nat.le_of_ble_eq_true rfl, Nat.le_of_ble_eq_true rfl⟩ (ws2 := fun u5 => wN ma cI th n sw st b r (T + i) (pwF sc (plS sw st b r sc fi mi fa T i) n) (pwF fi (plF sw st b r sc fi mi fa T i) n) (pwF mi (plM sw st b r sc fi mi fa T i) n) (pwF fa (plA sw st b r sc fi mi fa T i) n) (va_cpy (nowF T sc fi mi fa) K 0 0 25)) [] (fun _ => rfl) ([]) (fun _ => rfl) rfl (fun _ => rfl) [ma 0, ma 1, ma 2, ma 3, ma 4, ma 5, ma 6] (fun _ => rfl) rfl rfl rfl (fun u5 h7 => ?_)
    refine z_aload_n (n := 25) hC dX3_restFor_24 rfl 0 rfl rfl ?_
    refine gf_X3_22 (v := .ref (ma 5)) (n := 28) hC 0 rfl rfl dX3_restFor_25 rfl ?_
    refine z_bipush (v := nI 19) (n := 30) hC dX3_restFor_28 (by decide) rfl ?_
    refine z_iload_n (n := 31) hC dX3_restFor_30 rfl 1 rfl rfl ?_
    refine z_iadd (v := nI (19 + g)) (n := 32) hC dX3_restFor_31 (nI_add 19 g) rfl ?_
    refine z_iconst (v := nI 0) (n := 33) hC dX3_restFor_32 (by decide) rfl ?_
    refine z_iast (ws' := wN ma cI th n sw st b r (T + i) (pwF sc (plS sw st b r sc fi mi fa T i) n) (pwF fi (plF sw st b r sc fi mi fa T i) n) (pwF mi (plM sw st b r sc fi mi fa T i) n) (upd (pwF fa (plA sw st b r sc fi mi fa T i) n) g (nI 0)) (va_cpy (nowF T sc fi mi fa) K 0 0 25)) (n := 34) hC 5 0 (19 + g) rfl rfl rfl (by omega) (by decide) dX3_restFor_33 (nwu_fa) rfl rfl ?_
    refine z_aload_n (n := 35) hC dX3_restFor_34 rfl 0 rfl rfl ?_
    refine z_bipush (v := nI 25) (n := 37) hC dX3_restFor_35 (by decide) rfl ?_
    refine z_iload (n := 39) hC dX3_restFor_37 4 rfl rfl ?_
    refine z_isub (v := nI (25 - i)) (n := 40) hC dX3_restFor_39 (pk_sub (by omega)) rfl ?_
    refine z_callv (R := { frames := 6, cells := 0, slots := 0, locals := 129 }) (cells := 0) (slots := 0) (ws := wN ma cI th n sw st b r (T + i) (pwF sc (plS sw st b r sc fi mi fa T i) n) (pwF fi (plF sw st b r sc fi mi fa T i) n) (pwF mi (plM sw st b r sc fi mi fa T i) n) (upd (pwF fa (plA sw st b r sc fi mi fa T i) n) g (nI 0)) (va_cpy (nowF T sc fi mi fa) K 0 0 25)) (n := 43) (As := [.int (nI (25 - i))]) (rest := []) hC (k_X3_turnsOn l G cI cZ cJ ma th n sw st b r (T + i) (pwF sc (plS sw st b r sc fi mi fa T i) n) (pwF fi (plF sw st b r sc fi mi fa T i) n) (pwF mi (plM sw st b r sc fi mi fa T i) n) (upd (pwF fa (plA sw st b r sc fi mi fa T i) n) g (nI 0)) (va_cpy (nowF T sc fi mi fa) K 0 0 25) (25 - i) (by omega) (by omega) (by omega) hst) kg_X3_102 kd_yX3_turnsOn dX3_restFor_40 ⟨Nat.le_of_ble_eq_true rfl, Nat.le_of_ble_eq_true rfl⟩ 0 rfl rfl rfl [0, 1, 2, 3, 4, 5, 6] rfl (by decide) rfl (Nat.le_of_ble_eq_true rfl) ⟨Nat.le_of_ble_eq_true rfl, Nat.le_of_ble_eq_true rfl⟩ (ws2 := fun u8 => wN ma cI th n sw st b r ((T + i) + (25 - i)) (pwF (pwF sc (plS sw st b r sc fi mi fa T i) n) (plS sw st b r (pwF sc (plS sw st b r sc fi mi fa T i) n) (pwF fi (plF sw st b r sc fi mi fa T i) n) (pwF mi (plM sw st b r sc fi mi fa T i) n) (upd (pwF fa (plA sw st b r sc fi mi fa T i) n) g (nI 0)) (T + i) (25 - i)) n) (pwF (pwF fi (plF sw st b r sc fi mi fa T i) n) (plF sw st b r (pwF sc (plS sw st b r sc fi mi fa T i) n) (pwF fi (plF sw st b r sc fi mi fa T i) n) (pwF mi (plM sw st b r sc fi mi fa T i) n) (upd (pwF fa (plA sw st b r sc fi mi fa T i) n) g (nI 0)) (T + i) (25 - i)) n) (pwF (pwF mi (plM sw st b r sc fi mi fa T i) n) (plM sw st b r (pwF sc (plS sw st b r sc fi mi fa T i) n) (pwF fi (plF sw st b r sc fi mi fa T i) n) (pwF mi (plM sw st b r sc fi mi fa T i) n) (upd (pwF fa (plA sw st b r sc fi mi fa T i) n) g (nI 0)) (T + i) (25 - i)) n) (pwF (upd (pwF fa (plA sw st b r sc fi mi fa T i) n) g (nI 0)) (plA sw st b r (pwF sc (plS sw st b r sc fi mi fa T i) n) (pwF fi (plF sw st b r sc fi mi fa T i) n) (pwF mi (plM sw st b r sc fi mi fa T i) n) (upd (pwF fa (plA sw st b r sc fi mi fa T i) n) g (nI 0)) (T + i) (25 - i)) n) (va_cpy (nowF T sc fi mi fa) K 0 0 25)) [] (fun _ => rfl) ([]) (fun _ => rfl) rfl (fun _ => rfl) [ma 0, ma 1, ma 2, ma 3, ma 4, ma 5, ma 6] (fun _ => rfl) rfl rfl rfl (fun u8 h10 => ?_)
    refine z_aload_n (n := 44) hC dX3_restFor_43 rfl 0 rfl rfl ?_
    refine gf_X3_22 (v := .ref (ma 5)) (n := 47) hC 0 rfl rfl dX3_restFor_44 rfl ?_
    refine z_iconst (v := nI 1) (n := 48) hC dX3_restFor_47 (by decide) rfl ?_
    refine z_iload_n (n := 49) hC dX3_restFor_48 rfl 1 rfl rfl ?_
    refine z_iadd (v := nI (1 + g)) (n := 50) hC dX3_restFor_49 (nI_add 1 g) rfl ?_
    refine z_iald (v := reF sw st b r sc fi mi fa T g i) (n := 51) hC 5 0 (1 + g) rfl rfl rfl (by omega) (by decide) dX3_restFor_50 ((nw_sc (by omega)).trans (by rw [pwF_lt hg]; unfold plS; simp only [pwF_lt hg, pk_us]; rfl)) rfl ?_
    refine z_istore (lv' := [(5, .int (reF sw st b r sc fi mi fa T g i)), (0, .ref (ma 0)), (1, .int (nI g)), (2, .int (bsI (reF sw st b r sc fi mi fa T g) i)), (3, .int (moI (reF sw st b r sc fi mi fa T g) i)), (4, .int (nI i))]) (n := 53) hC dX3_restFor_51 (by decide) rfl rfl ?_
    refine z_aload_n (n := 54) hC dX3_restFor_53 rfl 1 rfl rfl ?_
    refine z_callv (R := { frames := 6, cells := 0, slots := 0, locals := 129 }) (cells := 0) (slots := 0) (ws := wN ma cI th n sw st b r ((T + i) + (25 - i)) (pwF (pwF sc (plS sw st b r sc fi mi fa T i) n) (plS sw st b r (pwF sc (plS sw st b r sc fi mi fa T i) n) (pwF fi (plF sw st b r sc fi mi fa T i) n) (pwF mi (plM sw st b r sc fi mi fa T i) n) (upd (pwF fa (plA sw st b r sc fi mi fa T i) n) g (nI 0)) (T + i) (25 - i)) n) (pwF (pwF fi (plF sw st b r sc fi mi fa T i) n) (plF sw st b r (pwF sc (plS sw st b r sc fi mi fa T i) n) (pwF fi (plF sw st b r sc fi mi fa T i) n) (pwF mi (plM sw st b r sc fi mi fa T i) n) (upd (pwF fa (plA sw st b r sc fi mi fa T i) n) g (nI 0)) (T + i) (25 - i)) n) (pwF (pwF mi (plM sw st b r sc fi mi fa T i) n) (plM sw st b r (pwF sc (plS sw st b r sc fi mi fa T i) n) (pwF fi (plF sw st b r sc fi mi fa T i) n) (pwF mi (plM sw st b r sc fi mi fa T i) n) (upd (pwF fa (plA sw st b r sc fi mi fa T i) n) g (nI 0)) (T + i) (25 - i)) n) (pwF (upd (pwF fa (plA sw st b r sc fi mi fa T i) n) g (nI 0)) (plA sw st b r (pwF sc (plS sw st b r sc fi mi fa T i) n) (pwF fi (plF sw st b r sc fi mi fa T i) n) (pwF mi (plM sw st b r sc fi mi fa T i) n) (upd (pwF fa (plA sw st b r sc fi mi fa T i) n) g (nI 0)) (T + i) (25 - i)) n) (va_cpy (nowF T sc fi mi fa) K 0 0 25)) (n := 57) (As := []) (rest := []) hC (k_X3_bringBack l G cI cZ cJ ma th n sw st b r ((T + i) + (25 - i)) (pwF (pwF sc (plS sw st b r sc fi mi fa T i) n) (plS sw st b r (pwF sc (plS sw st b r sc fi mi fa T i) n) (pwF fi (plF sw st b r sc fi mi fa T i) n) (pwF mi (plM sw st b r sc fi mi fa T i) n) (upd (pwF fa (plA sw st b r sc fi mi fa T i) n) g (nI 0)) (T + i) (25 - i)) n) (pwF (pwF fi (plF sw st b r sc fi mi fa T i) n) (plF sw st b r (pwF sc (plS sw st b r sc fi mi fa T i) n) (pwF fi (plF sw st b r sc fi mi fa T i) n) (pwF mi (plM sw st b r sc fi mi fa T i) n) (upd (pwF fa (plA sw st b r sc fi mi fa T i) n) g (nI 0)) (T + i) (25 - i)) n) (pwF (pwF mi (plM sw st b r sc fi mi fa T i) n) (plM sw st b r (pwF sc (plS sw st b r sc fi mi fa T i) n) (pwF fi (plF sw st b r sc fi mi fa T i) n) (pwF mi (plM sw st b r sc fi mi fa T i) n) (upd (pwF fa (plA sw st b r sc fi mi fa T i) n) g (nI 0)) (T + i) (25 - i)) n) (pwF (upd (pwF fa (plA sw st b r sc fi mi fa T i) n) g (nI 0)) (plA sw st b r (pwF sc (plS sw st b r sc fi mi fa T i) n) (pwF fi (plF sw st b r sc fi mi fa T i) n) (pwF mi (plM sw st b r sc fi mi fa T i) n) (upd (pwF fa (plA sw st b r sc fi mi fa T i) n) g (nI 0)) (T + i) (25 - i)) n) K T sc fi mi fa (fun j hj => by rw [pwF_at (by omega), upd_ne (by omega), pwF_at (by omega)])) kg_X3_123 kd_yX3_bringBack dX3_restFor_54 ⟨Nat.le_of_ble_eq_true rfl, Nat.le_of_ble_eq_true rfl⟩ 0 rfl rfl rfl [0, 1, 2, 3, 4, 5, 6] rfl (by decide) rfl (Nat.le_of_ble_eq_true rfl) ⟨Nat.le_of_ble_eq_true rfl, Nat.le_of_ble_eq_true rfl⟩ (ws2 := fun u11 => wN ma cI th n sw st b r T sc fi mi fa (va_cpy (nowF T sc fi mi fa) K 0 0 25)) [] (fun _ => rfl) ([]) (fun _ => rfl) rfl (fun _ => rfl) [ma 0, ma 1, ma 2, ma 3, ma 4, ma 5, ma 6] (fun _ => rfl) rfl rfl rfl (fun u11 h13 => ?_)
    rcases Nat.eq_zero_or_pos i with h0 | h0
    · refine z_leq (lv' := [(5, .int (reF sw st b r sc fi mi fa T g i)), (0, .ref (ma 0)), (1, .int (nI g)), (2, .int (-1)), (3, .int (moI (reF sw st b r sc fi mi fa T g) i)), (4, .int (nI i))]) (by rw [bsI_0 h0]) ?_
      refine z_iload_n (n := 58) hC dX3_restFor_57 rfl 3 rfl rfl ?_
      refine z_iconst (v := (-1)) (n := 59) hC dX3_restFor_58 (by decide) rfl ?_
      refine z_icmp_eq (tgt := 71) (n := 62) hC dX3_restFor_59 (by decide) rfl (fun c14 => ?_) (fun c14 => absurd rfl c14)
      refine z_iload (n := 73) hC dX3_restFor_71 5 rfl rfl ?_
      refine z_istore_n (lv' := [(2, .int (nI i)), (5, .int (reF sw st b r sc fi mi fa T g i)), (0, .ref (ma 0)), (1, .int (nI g)), (3, .int (moI (reF sw st b r sc fi mi fa T g) i)), (4, .int (nI i))]) (n := 74) hC dX3_restFor_73 rfl (by decide) rfl rfl ?_
      refine z_iload (n := 76) hC dX3_restFor_74 1 rfl rfl ?_
      refine z_istore_n (lv' := [(3, .int (reF sw st b r sc fi mi fa T g i)), (2, .int (nI i)), (5, .int (reF sw st b r sc fi mi fa T g i)), (0, .ref (ma 0)), (1, .int (nI g)), (4, .int (nI i))]) (n := 77) hC dX3_restFor_76 rfl (by decide) rfl rfl ?_
      refine z_iinc (k0 := 5) (v := nI (i + 1)) (lv' := [(4, .int (nI (i + 1))), (3, .int (reF sw st b r sc fi mi fa T g i)), (2, .int (nI i)), (5, .int (reF sw st b r sc fi mi fa T g i)), (0, .ref (ma 0)), (1, .int (nI g))]) (n := 80) hC dX3_restFor_77 rfl (nI_add i 1) (by decide) rfl rfl ?_
      refine z_goto (n := 11) hC dX3_restFor_80 (by decide) ?_
      refine z_lv [4, 5, 2, 1, 0] (lv' := [(0, .ref (ma 0)), (1, .int (nI g)), (2, .int (nI i)), (3, .int (reF sw st b r sc fi mi fa T g i)), (4, .int (nI (i + 1)))]) rfl ?_
      refine z_leq (lv' := [(0, .ref (ma 0)), (1, .int (nI g)), (2, .int (bsI (reF sw st b r sc fi mi fa T g) (i + 1))), (3, .int (moI (reF sw st b r sc fi mi fa T g) (i + 1))), (4, .int (nI (i + 1)))]) (by rw [h0]; rfl) ?_
      exact ih (i + 1) (by omega) (by omega)
    · have hle := brF_le (reF sw st b r sc fi mi fa T g) (i - 1)
      refine z_leq (lv' := [(5, .int (reF sw st b r sc fi mi fa T g i)), (0, .ref (ma 0)), (1, .int (nI g)), (2, .int (nI (brF (reF sw st b r sc fi mi fa T g) (i - 1)))), (3, .int (reF sw st b r sc fi mi fa T g (brF (reF sw st b r sc fi mi fa T g) (i - 1)))), (4, .int (nI i))]) (by rw [bsI_p h0, moI_p h0]) ?_
      refine z_iload_n (n := 58) hC dX3_restFor_57 rfl 3 rfl rfl ?_
      refine z_iconst (v := (-1)) (n := 59) hC dX3_restFor_58 (by decide) rfl ?_
      refine z_icmp_eq (tgt := 71) (n := 62) hC dX3_restFor_59 (by decide) rfl (fun c15 => absurd c15 (nI_m1 (by omega))) (fun c15 => ?_)
      refine z_iload (n := 64) hC dX3_restFor_62 0 rfl rfl ?_
      refine z_iload_n (n := 65) hC dX3_restFor_64 rfl 4 rfl rfl ?_
      refine z_icmp_gt (tgt := 71) (n := 68) hC dX3_restFor_65 (by decide) rfl (fun c16 => ?_) (fun c16 => ?_)
      · refine z_iload (n := 73) hC dX3_restFor_71 5 rfl rfl ?_
        refine z_istore_n (lv' := [(2, .int (nI i)), (5, .int (reF sw st b r sc fi mi fa T g i)), (0, .ref (ma 0)), (1, .int (nI g)), (3, .int (reF sw st b r sc fi mi fa T g (brF (reF sw st b r sc fi mi fa T g) (i - 1)))), (4, .int (nI i))]) (n := 74) hC dX3_restFor_73 rfl (by decide) rfl rfl ?_
        refine z_iload (n := 76) hC dX3_restFor_74 1 rfl rfl ?_
        refine z_istore_n (lv' := [(3, .int (reF sw st b r sc fi mi fa T g i)), (2, .int (nI i)), (5, .int (reF sw st b r sc fi mi fa T g i)), (0, .ref (ma 0)), (1, .int (nI g)), (4, .int (nI i))]) (n := 77) hC dX3_restFor_76 rfl (by decide) rfl rfl ?_
        refine z_iinc (k0 := 5) (v := nI (i + 1)) (lv' := [(4, .int (nI (i + 1))), (3, .int (reF sw st b r sc fi mi fa T g i)), (2, .int (nI i)), (5, .int (reF sw st b r sc fi mi fa T g i)), (0, .ref (ma 0)), (1, .int (nI g))]) (n := 80) hC dX3_restFor_77 rfl (nI_add i 1) (by decide) rfl rfl ?_
        refine z_goto (n := 11) hC dX3_restFor_80 (by decide) ?_
        refine z_lv [4, 5, 2, 1, 0] (lv' := [(0, .ref (ma 0)), (1, .int (nI g)), (2, .int (nI i)), (3, .int (reF sw st b r sc fi mi fa T g i)), (4, .int (nI (i + 1)))]) rfl ?_
        refine z_leq (lv' := [(0, .ref (ma 0)), (1, .int (nI g)), (2, .int (bsI (reF sw st b r sc fi mi fa T g) (i + 1))), (3, .int (moI (reF sw st b r sc fi mi fa T g) (i + 1))), (4, .int (nI (i + 1)))]) (by rw [bsI_s, moI_s, brF_take h0 c16]) ?_
        exact ih (i + 1) (by omega) (by omega)
      · refine z_goto (n := 77) hC dX3_restFor_68 (by decide) ?_
        refine z_iinc (k0 := 5) (v := nI (i + 1)) (lv' := [(4, .int (nI (i + 1))), (5, .int (reF sw st b r sc fi mi fa T g i)), (0, .ref (ma 0)), (1, .int (nI g)), (2, .int (nI (brF (reF sw st b r sc fi mi fa T g) (i - 1)))), (3, .int (reF sw st b r sc fi mi fa T g (brF (reF sw st b r sc fi mi fa T g) (i - 1))))]) (n := 80) hC dX3_restFor_77 rfl (nI_add i 1) (by decide) rfl rfl ?_
        refine z_goto (n := 11) hC dX3_restFor_80 (by decide) ?_
        refine z_lv [2, 3, 4, 5, 0] (lv' := [(0, .ref (ma 0)), (1, .int (nI g)), (2, .int (nI (brF (reF sw st b r sc fi mi fa T g) (i - 1)))), (3, .int (reF sw st b r sc fi mi fa T g (brF (reF sw st b r sc fi mi fa T g) (i - 1)))), (4, .int (nI (i + 1)))]) rfl ?_
        refine z_leq (lv' := [(0, .ref (ma 0)), (1, .int (nI g)), (2, .int (bsI (reF sw st b r sc fi mi fa T g) (i + 1))), (3, .int (moI (reF sw st b r sc fi mi fa T g) (i + 1))), (4, .int (nI (i + 1)))]) (by rw [bsI_s, moI_s, brF_keep h0 c16]) ?_
        exact ih (i + 1) (by omega) (by omega)

set_option maxRecDepth 100000 in
set_option maxHeartbeats 4000000 in
theorem k_X3_bestRest (l : Launch) (G : va_G) (cI cZ cJ : ClassId) (ma : Nat → Nat) (th : Int32) (n : Nat) (sw : Nat → Int32) (st : Nat → Int32) (b : Nat → Int32) (r : Nat → Int32) (T : Nat) (sc : Nat → Int32) (fi : Nat → Int32) (mi : Nat → Int32) (fa : Nat → Int32) (K : Nat → Int32) (g : Nat) (hn : n ≤ 6) (hT : T + 200 < 2 ^ 29) (hg : g < n) (hst : ∀ g, g < n → nI 1 ≤ st g) : MI (Unit) l yX3_bestRest cX3_bestRest 2 7 154 G (tY cI cZ cJ) [.ref (ma 0), .int (nI g)] (wN ma cI th n sw st b r T sc fi mi fa K) (fun zr _ => zr = nI (brF (reF sw st b r sc fi mi fa T g) 20)) (fun _ => wN ma cI (nI 0) n sw st b r T sc fi mi fa (va_cpy (nowF T sc fi mi fa) K 0 0 25)) 0 0 := by
  refine MI_of (by decide) (Nat.le_of_ble_eq_true rfl) [(0, .ref (ma 0)), (1, .int (nI g))] rfl ?_
  intro p e s m below meth c hC hr hlocks hname
  have hC : Cx p s m _ c cX3_bestRest 2 RX3 G (tY cI cZ cJ) _ := hC
  refine z_aload_n (n := 1) hC dX3_bestRest_0 rfl 0 rfl rfl ?_
  refine z_iconst (v := nI 0) (n := 2) hC dX3_bestRest_1 (by decide) rfl ?_
  refine pf_X3_28 (ws' := wN ma cI (nI 0) n sw st b r T sc fi mi fa K) (n := 5) hC 0 rfl (Nat.le_of_ble_eq_true rfl) dX3_bestRest_2 rfl rfl ?_
  refine z_aload_n (n := 6) hC dX3_bestRest_5 rfl 0 rfl rfl ?_
  refine z_iload_n (n := 7) hC dX3_bestRest_6 rfl 1 rfl rfl ?_
  refine z_callb (R := { frames := 7, cells := 0, slots := 0, locals := 154 }) (cells := 0) (slots := 0) (ws := wN ma cI (nI 0) n sw st b r T sc fi mi fa K) (n := 10) (As := [.int (nI g)]) (rest := []) hC (k_X3_isGun_t l G cI cZ cJ ma (nI 0) n sw st b r T sc fi mi fa K g (by omega) hg) kg_X3_95 kd_yX3_isGun dX3_bestRest_7 ⟨Nat.le_of_ble_eq_true rfl, Nat.le_of_ble_eq_true rfl⟩ 0 rfl rfl rfl [0, 1, 2, 3, 4, 5, 6] rfl (by decide) rfl (Nat.le_of_ble_eq_true rfl) ⟨Nat.le_of_ble_eq_true rfl, Nat.le_of_ble_eq_true rfl⟩ (ws2 := fun u1 => wN ma cI (nI 0) n sw st b r T sc fi mi fa K) [] (fun _ => rfl) ([]) (fun _ => rfl) rfl (fun _ => rfl) [ma 0, ma 1, ma 2, ma 3, ma 4, ma 5, ma 6] (fun _ => rfl) rfl rfl rfl (fun r2 u1 h3 => ?_)
  subst h3
  refine z_if_eq_b (tgt := 21) (n := 13) hC true rfl dX3_bestRest_10 (by decide) rfl (fun c4 => absurd c4 (by decide)) (fun c4 => ?_)
  refine z_aload_n (n := 14) hC dX3_bestRest_13 rfl 0 rfl rfl ?_
  refine z_iload_n (n := 15) hC dX3_bestRest_14 rfl 1 rfl rfl ?_
  refine z_calli (R := { frames := 7, cells := 0, slots := 0, locals := 154 }) (cells := 0) (slots := 0) (ws := wN ma cI (nI 0) n sw st b r T sc fi mi fa K) (n := 18) (As := [.int (nI g)]) (rest := []) hC (k_X3_restFor l G cI cZ cJ ma (nI 0) n sw st b r T sc fi mi fa K g (by omega) (by omega) hg hst) kg_X3_135 kd_yX3_restFor dX3_bestRest_15 ⟨Nat.le_of_ble_eq_true rfl, Nat.le_of_ble_eq_true rfl⟩ 0 rfl rfl rfl [0, 1, 2, 3, 4, 5, 6] rfl (by decide) rfl (Nat.le_of_ble_eq_true rfl) ⟨Nat.le_of_ble_eq_true rfl, Nat.le_of_ble_eq_true rfl⟩ (ws2 := fun u5 => wN ma cI (nI 0) n sw st b r T sc fi mi fa (va_cpy (nowF T sc fi mi fa) K 0 0 25)) [] (fun _ => rfl) ([]) (fun _ => rfl) rfl (fun _ => rfl) [ma 0, ma 1, ma 2, ma 3, ma 4, ma 5, ma 6] (fun _ => rfl) rfl rfl rfl (fun r6 u5 h7 => ?_)
  subst h7
  refine z_goto (n := 26) hC dX3_bestRest_18 (by decide) ?_
  refine z_iret hC hr hlocks () ?_ rfl dX3_bestRest_26 (by omega) (by omega)
  rfl

set_option maxRecDepth 100000 in
set_option maxHeartbeats 4000000 in
theorem k_X3_bestRest_x (l : Launch) (G : va_G) (cI cZ cJ : ClassId) (ma : Nat → Nat) (th : Int32) (n : Nat) (sw : Nat → Int32) (st : Nat → Int32) (b : Nat → Int32) (r : Nat → Int32) (T : Nat) (sc : Nat → Int32) (fi : Nat → Int32) (mi : Nat → Int32) (fa : Nat → Int32) (K : Nat → Int32) (x : Int32) (hn : n ≤ 6) (hT : T + 200 < 2 ^ 29) (hb : x < 0 ∨ nI n ≤ x) : MI (Unit) l yX3_bestRest cX3_bestRest 2 2 43 G (tY cI cZ cJ) [.ref (ma 0), .int x] (wN ma cI th n sw st b r T sc fi mi fa K) (fun zr _ => zr = nI 0) (fun _ => wN ma cI (nI 1) n sw st b r T sc fi mi fa K) 0 0 := by
  refine MI_of (by decide) (Nat.le_of_ble_eq_true rfl) [(0, .ref (ma 0)), (1, .int x)] rfl ?_
  intro p e s m below meth c hC hr hlocks hname
  have hC : Cx p s m _ c cX3_bestRest 2 RX3 G (tY cI cZ cJ) _ := hC
  refine z_aload_n (n := 1) hC dX3_bestRest_0 rfl 0 rfl rfl ?_
  refine z_iconst (v := nI 0) (n := 2) hC dX3_bestRest_1 (by decide) rfl ?_
  refine pf_X3_28 (ws' := wN ma cI (nI 0) n sw st b r T sc fi mi fa K) (n := 5) hC 0 rfl (Nat.le_of_ble_eq_true rfl) dX3_bestRest_2 rfl rfl ?_
  refine z_aload_n (n := 6) hC dX3_bestRest_5 rfl 0 rfl rfl ?_
  refine z_iload_n (n := 7) hC dX3_bestRest_6 rfl 1 rfl rfl ?_
  refine z_callb (R := { frames := 2, cells := 0, slots := 0, locals := 43 }) (cells := 0) (slots := 0) (ws := wN ma cI (nI 0) n sw st b r T sc fi mi fa K) (n := 10) (As := [.int x]) (rest := []) hC (k_X3_isGun_f l G cI cZ cJ ma (nI 0) n sw st b r T sc fi mi fa K x (by omega) hb) kg_X3_95 kd_yX3_isGun dX3_bestRest_7 ⟨Nat.le_of_ble_eq_true rfl, Nat.le_of_ble_eq_true rfl⟩ 0 rfl rfl rfl [0, 1, 2, 3, 4, 5, 6] rfl (by decide) rfl (Nat.le_of_ble_eq_true rfl) ⟨Nat.le_of_ble_eq_true rfl, Nat.le_of_ble_eq_true rfl⟩ (ws2 := fun u1 => wN ma cI (nI 0) n sw st b r T sc fi mi fa K) [] (fun _ => rfl) ([]) (fun _ => rfl) rfl (fun _ => rfl) [ma 0, ma 1, ma 2, ma 3, ma 4, ma 5, ma 6] (fun _ => rfl) rfl rfl rfl (fun r2 u1 h3 => ?_)
  subst h3
  refine z_if_eq_b (tgt := 21) (n := 13) hC false rfl dX3_bestRest_10 (by decide) rfl (fun c4 => ?_) (fun c4 => absurd c4 (by decide))
  refine z_aload_n (n := 22) hC dX3_bestRest_21 rfl 0 rfl rfl ?_
  refine z_iconst (v := nI 1) (n := 23) hC dX3_bestRest_22 (by decide) rfl ?_
  refine z_calli (R := { frames := 2, cells := 0, slots := 0, locals := 43 }) (cells := 0) (slots := 0) (ws := wN ma cI (nI 0) n sw st b r T sc fi mi fa K) (n := 26) (As := [.int (nI 1)]) (rest := []) hC (k_X3_no l G cI cZ cJ ma (nI 0) n sw st b r T sc fi mi fa K (nI 1) (by omega) (by omega)) kg_X3_92 kd_yX3_no dX3_bestRest_23 ⟨Nat.le_of_ble_eq_true rfl, Nat.le_of_ble_eq_true rfl⟩ 0 rfl rfl rfl [0, 1, 2, 3, 4, 5, 6] rfl (by decide) rfl (Nat.le_of_ble_eq_true rfl) ⟨Nat.le_of_ble_eq_true rfl, Nat.le_of_ble_eq_true rfl⟩ (ws2 := fun u5 => wN ma cI (nI 1) n sw st b r T sc fi mi fa K) [] (fun _ => rfl) ([]) (fun _ => rfl) rfl (fun _ => rfl) [ma 0, ma 1, ma 2, ma 3, ma 4, ma 5, ma 6] (fun _ => rfl) rfl rfl rfl (fun r6 u5 h7 => ?_)
  subst h7
  refine z_iret hC hr hlocks () ?_ rfl dX3_bestRest_26 (by omega) (by omega)
  rfl
