set_option maxRecDepth 100000 in
set_option maxHeartbeats 4000000 in
theorem k_X3_untilMiss (l : Launch) (G : va_G) (cI cZ cJ : ClassId) (ma : Nat → Nat) (th : Int32) (n : Nat) (sw : Nat → Int32) (st : Nat → Int32) (b : Nat → Int32) (r : Nat → Int32) (T : Nat) (sc : Nat → Int32) (fi : Nat → Int32) (mi : Nat → Int32) (fa : Nat → Int32) (K : Nat → Int32) (g : Nat) (hn : n ≤ 6) (hT : T + 200 < 2 ^ 29) (hg : g < n) (hst : ∀ g, g < n → nI 1 ≤ st g) (hfa : inN (fa g) (2 ^ 28)) (hmi : inN (mi g) (2 ^ 30)) (ham : ∀ zt : Nat, inN (amF b r zt g) 1000) : MI (Unit) l yX3_untilMiss cX3_untilMiss 4 5 107 G (tY cI cZ cJ) [.ref (ma 0), .int (nI g)] (wN ma cI th n sw st b r T sc fi mi fa K) (fun zr _ => zr = umF (miB sw b r T g) 100) (fun _ => wN ma cI th n sw st b r T sc fi mi fa (va_cpy (nowF T sc fi mi fa) K 0 0 25)) 0 0 := by
  refine MI_of (by decide) (Nat.le_of_ble_eq_true rfl) [(0, .ref (ma 0)), (1, .int (nI g))] rfl ?_
  intro p e s m below meth c hC hr hlocks hname
  have hC : Cx p s m _ c cX3_untilMiss 4 RX3 G (tY cI cZ cJ) _ := hC
  refine z_aload_n (n := 1) hC dX3_untilMiss_0 rfl 0 rfl rfl ?_
  refine z_callv (R := { frames := 5, cells := 0, slots := 0, locals := 107 }) (cells := 0) (slots := 0) (ws := wN ma cI th n sw st b r T sc fi mi fa K) (n := 4) (As := []) (rest := []) hC (k_X3_keep l G cI cZ cJ ma th n sw st b r T sc fi mi fa K (by omega) (by omega)) kg_X3_120 kd_yX3_keep dX3_untilMiss_1 ⟨Nat.le_of_ble_eq_true rfl, Nat.le_of_ble_eq_true rfl⟩ 0 rfl rfl rfl [0, 1, 2, 3, 4, 5, 6] rfl (by decide) rfl (Nat.le_of_ble_eq_true rfl) ⟨Nat.le_of_ble_eq_true rfl, Nat.le_of_ble_eq_true rfl⟩ (ws2 := fun u1 => wN ma cI th n sw st b r T sc fi mi fa (va_cpy (nowF T sc fi mi fa) K 0 0 25)) [] (fun _ => rfl) ([]) (fun _ => rfl) rfl (fun _ => rfl) [ma 0, ma 1, ma 2, ma 3, ma 4, ma 5, ma 6] (fun _ => rfl) rfl rfl rfl (fun u1 h3 => ?_)
  refine z_iconst (v := (-1)) (n := 5) hC dX3_untilMiss_4 (by decide) rfl ?_
  refine z_istore_n (lv' := [(2, .int (-1)), (0, .ref (ma 0)), (1, .int (nI g))]) (n := 6) hC dX3_untilMiss_5 rfl (by decide) rfl rfl ?_
  refine z_iconst (v := nI 1) (n := 7) hC dX3_untilMiss_6 (by decide) rfl ?_
  refine z_istore_n (lv' := [(3, .int (nI 1)), (2, .int (-1)), (0, .ref (ma 0)), (1, .int (nI g))]) (n := 8) hC dX3_untilMiss_7 rfl (by decide) rfl rfl ?_
  refine z_lv [2, 3, 1, 0] (lv' := [(0, .ref (ma 0)), (1, .int (nI g)), (2, .int (-1)), (3, .int (nI 1))]) rfl ?_
  refine z_loopS (σ := Unit) 100 0 (fun i u => True) (fun i u => wN ma cI th n sw st b r (T + i) (pwF sc (plS sw st b r sc fi mi fa T i) n) (pwF fi (plF sw st b r sc fi mi fa T i) n) (pwF mi (plM sw st b r sc fi mi fa T i) n) (pwF fa (plA sw st b r sc fi mi fa T i) n) (va_cpy (nowF T sc fi mi fa) K 0 0 25)) (fun i u => [(0, .ref (ma 0)), (1, .int (nI g)), (2, .int (umS (miB sw b r T g) i)), (3, .int (nI (i + 1)))]) (fun _ => 0) (fun _ => 0) () (by omega) (trivial) (by rw [pl_0S, pl_0F, pl_0M, pl_0A, Nat.add_zero]) rfl (Nat.le_refl _) (Nat.le_refl _) (fun i u hi0 hi1 hu ih => ?_)
  refine z_iload_n (n := 9) hC dX3_untilMiss_8 rfl 3 rfl rfl ?_
  refine z_bipush (v := nI 100) (n := 11) hC dX3_untilMiss_9 (by decide) rfl ?_
  refine z_icmp_gt_n (tgt := 52) (n := 14) hC (i + 1) 100 rfl rfl (by omega) (by omega) dX3_untilMiss_11 (by decide) rfl (fun c4 => ?_) (fun c4 => ?_)
  · obtain rfl : 100 = i := by omega
    refine z_aload_n (n := 53) hC dX3_untilMiss_52 rfl 0 rfl rfl ?_
    refine z_callv (R := { frames := 5, cells := 0, slots := 0, locals := 107 }) (cells := 0) (slots := 0) (ws := wN ma cI th n sw st b r (T + 100) (pwF sc (plS sw st b r sc fi mi fa T 100) n) (pwF fi (plF sw st b r sc fi mi fa T 100) n) (pwF mi (plM sw st b r sc fi mi fa T 100) n) (pwF fa (plA sw st b r sc fi mi fa T 100) n) (va_cpy (nowF T sc fi mi fa) K 0 0 25)) (n := 56) (As := []) (rest := []) hC (k_X3_bringBack l G cI cZ cJ ma th n sw st b r (T + 100) (pwF sc (plS sw st b r sc fi mi fa T 100) n) (pwF fi (plF sw st b r sc fi mi fa T 100) n) (pwF mi (plM sw st b r sc fi mi fa T 100) n) (pwF fa (plA sw st b r sc fi mi fa T 100) n) K T sc fi mi fa (fun j hj => pwF_at (by omega))) kg_X3_123 kd_yX3_bringBack dX3_untilMiss_53 ⟨Nat.le_of_ble_eq_true rfl, Nat.le_of_ble_eq_true rfl⟩ 0 rfl rfl rfl [0, 1, 2, 3, 4, 5, 6] rfl (by decide) rfl (Nat.le_of_ble_eq_true rfl) ⟨Nat.le_of_ble_eq_true rfl, Nat.le_of_ble_eq_true rfl⟩ (ws2 := fun u5 => wN ma cI th n sw st b r T sc fi mi fa (va_cpy (nowF T sc fi mi fa) K 0 0 25)) [] (fun _ => rfl) ([]) (fun _ => rfl) rfl (fun _ => rfl) [ma 0, ma 1, ma 2, ma 3, ma 4, ma 5, ma 6] (fun _ => rfl) rfl rfl rfl (fun u5 h7 => ?_)
    refine z_iload_n (n := 57) hC dX3_untilMiss_56 rfl 2 rfl rfl ?_
    refine z_iret hC hr hlocks () ?_ rfl dX3_untilMiss_57 (by omega) (by omega)
    unfold umS umF; rfl
  · by_cases hf : fiN (miB sw b r T g) i < i
    · refine z_leq (lv' := [(0, .ref (ma 0)), (1, .int (nI g)), (2, .int (nI (fiN (miB sw b r T g) i + 1))), (3, .int (nI (i + 1)))]) (by unfold umS; rw [if_pos hf]) ?_
      refine z_iload_n (n := 15) hC dX3_untilMiss_14 rfl 2 rfl rfl ?_
      refine z_iconst (v := (-1)) (n := 16) hC dX3_untilMiss_15 (by decide) rfl ?_
      refine z_icmp_ne (tgt := 52) (n := 19) hC dX3_untilMiss_16 (by decide) rfl (fun c8 => ?_) (fun c8 => absurd c8 (nI_m1 (by omega)))
      refine z_aload_n (n := 53) hC dX3_untilMiss_52 rfl 0 rfl rfl ?_
      refine z_callv (R := { frames := 5, cells := 0, slots := 0, locals := 107 }) (cells := 0) (slots := 0) (ws := wN ma cI th n sw st b r (T + i) (pwF sc (plS sw st b r sc fi mi fa T i) n) (pwF fi (plF sw st b r sc fi mi fa T i) n) (pwF mi (plM sw st b r sc fi mi fa T i) n) (pwF fa (plA sw st b r sc fi mi fa T i) n) (va_cpy (nowF T sc fi mi fa) K 0 0 25)) (n := 56) (As := []) (rest := []) hC (k_X3_bringBack l G cI cZ cJ ma th n sw st b r (T + i) (pwF sc (plS sw st b r sc fi mi fa T i) n) (pwF fi (plF sw st b r sc fi mi fa T i) n) (pwF mi (plM sw st b r sc fi mi fa T i) n) (pwF fa (plA sw st b r sc fi mi fa T i) n) K T sc fi mi fa (fun j hj => pwF_at (by omega))) kg_X3_123 kd_yX3_bringBack dX3_untilMiss_53 ⟨Nat.le_of_ble_eq_true rfl, Nat.le_of_ble_eq_true rfl⟩ 0 rfl rfl rfl [0, 1, 2, 3, 4, 5, 6] rfl (by decide) rfl (Nat.le_of_ble_eq_true rfl) ⟨Nat.le_of_ble_eq_true rfl, Nat.le_of_ble_eq_true rfl⟩ (ws2 := fun u9 => wN ma cI th n sw st b r T sc fi mi fa (va_cpy (nowF T sc fi mi fa) K 0 0 25)) [] (fun _ => rfl) ([]) (fun _ => rfl) rfl (fun _ => rfl) [ma 0, ma 1, ma 2, ma 3, ma 4, ma 5, ma 6] (fun _ => rfl) rfl rfl rfl (fun u9 h11 => ?_)
      refine z_iload_n (n := 57) hC dX3_untilMiss_56 rfl 2 rfl rfl ?_
      refine z_iret hC hr hlocks () ?_ rfl dX3_untilMiss_57 (by omega) (by omega)
      exact (umF_found hf (by omega)).symm
    · refine z_leq (lv' := [(0, .ref (ma 0)), (1, .int (nI g)), (2, .int (-1)), (3, .int (nI (i + 1)))]) (by unfold umS; rw [if_neg hf]) ?_
      refine z_iload_n (n := 15) hC dX3_untilMiss_14 rfl 2 rfl rfl ?_
      refine z_iconst (v := (-1)) (n := 16) hC dX3_untilMiss_15 (by decide) rfl ?_
      refine z_icmp_ne (tgt := 52) (n := 19) hC dX3_untilMiss_16 (by decide) rfl (fun c12 => absurd rfl c12) (fun c12 => ?_)
      refine z_aload_n (n := 20) hC dX3_untilMiss_19 rfl 0 rfl rfl ?_
      refine z_callv (R := { frames := 5, cells := 0, slots := 0, locals := 107 }) (cells := 0) (slots := 0) (ws := wN ma cI th n sw st b r (T + i) (pwF sc (plS sw st b r sc fi mi fa T i) n) (pwF fi (plF sw st b r sc fi mi fa T i) n) (pwF mi (plM sw st b r sc fi mi fa T i) n) (pwF fa (plA sw st b r sc fi mi fa T i) n) (va_cpy (nowF T sc fi mi fa) K 0 0 25)) (n := 23) (As := []) (rest := []) hC (k_X3_turnOn l G cI cZ cJ ma th n sw st b r (T + i) (pwF sc (plS sw st b r sc fi mi fa T i) n) (pwF fi (plF sw st b r sc fi mi fa T i) n) (pwF mi (plM sw st b r sc fi mi fa T i) n) (pwF fa (plA sw st b r sc fi mi fa T i) n) (va_cpy (nowF T sc fi mi fa) K 0 0 25) (by omega) (by omega) hst) kg_X3_75 kd_yX3_turnOn dX3_untilMiss_20 ⟨Nat.le_of_ble_eq_true rfl, Nat.le_of_ble_eq_true rfl⟩ 0 rfl rfl rfl [0, 1, 2, 3, 4, 5, 6] rfl (by decide) rfl (Nat.le_of_ble_eq_true rfl) ⟨Nat.le_of_ble_eq_true rfl, Nat.le_of_ble_eq_true rfl⟩ (ws2 := fun u13 => wN ma cI th n sw st b r ((T + i) + 1) (pwF (pwF sc (plS sw st b r sc fi mi fa T i) n) (plS sw st b r (pwF sc (plS sw st b r sc fi mi fa T i) n) (pwF fi (plF sw st b r sc fi mi fa T i) n) (pwF mi (plM sw st b r sc fi mi fa T i) n) (pwF fa (plA sw st b r sc fi mi fa T i) n) (T + i) 1) n) (pwF (pwF fi (plF sw st b r sc fi mi fa T i) n) (plF sw st b r (pwF sc (plS sw st b r sc fi mi fa T i) n) (pwF fi (plF sw st b r sc fi mi fa T i) n) (pwF mi (plM sw st b r sc fi mi fa T i) n) (pwF fa (plA sw st b r sc fi mi fa T i) n) (T + i) 1) n) (pwF (pwF mi (plM sw st b r sc fi mi fa T i) n) (plM sw st b r (pwF sc (plS sw st b r sc fi mi fa T i) n) (pwF fi (plF sw st b r sc fi mi fa T i) n) (pwF mi (plM sw st b r sc fi mi fa T i) n) (pwF fa (plA sw st b r sc fi mi fa T i) n) (T + i) 1) n) (pwF (pwF fa (plA sw st b r sc fi mi fa T i) n) (plA sw st b r (pwF sc (plS sw st b r sc fi mi fa T i) n) (pwF fi (plF sw st b r sc fi mi fa T i) n) (pwF mi (plM sw st b r sc fi mi fa T i) n) (pwF fa (plA sw st b r sc fi mi fa T i) n) (T + i) 1) n) (va_cpy (nowF T sc fi mi fa) K 0 0 25)) [] (fun _ => rfl) ([]) (fun _ => rfl) rfl (fun _ => rfl) [ma 0, ma 1, ma 2, ma 3, ma 4, ma 5, ma 6] (fun _ => rfl) rfl rfl rfl (fun u13 h15 => ?_)
      refine z_weq (ws' := wN ma cI th n sw st b r (T + (i + 1)) (pwF sc (plS sw st b r sc fi mi fa T (i + 1)) n) (pwF fi (plF sw st b r sc fi mi fa T (i + 1)) n) (pwF mi (plM sw st b r sc fi mi fa T (i + 1)) n) (pwF fa (plA sw st b r sc fi mi fa T (i + 1)) n) (va_cpy (nowF T sc fi mi fa) K 0 0 25)) (by rw [pl_sS, pl_sF, pl_sM, pl_sA, Nat.add_assoc]) ?_
      refine z_aload_n (n := 24) hC dX3_untilMiss_23 rfl 0 rfl rfl ?_
      refine gf_X3_22 (v := .ref (ma 5)) (n := 27) hC 0 rfl rfl dX3_untilMiss_24 rfl ?_
      refine z_bipush (v := nI 13) (n := 29) hC dX3_untilMiss_27 (by decide) rfl ?_
      refine z_iload_n (n := 30) hC dX3_untilMiss_29 rfl 1 rfl rfl ?_
      refine z_iadd (v := nI (13 + g)) (n := 31) hC dX3_untilMiss_30 (nI_add 13 g) rfl ?_
      refine z_iald (v := mi g + bN (miB sw b r T g i)) (n := 32) hC 5 0 (13 + g) rfl rfl rfl (by omega) (by decide) dX3_untilMiss_31 ((nw_mi (by omega)).trans ((pwF_lt hg).trans (um_mi (hst g hg) hfa ham (by omega) (fiN_none hf)))) rfl ?_
      refine z_aload_n (n := 33) hC dX3_untilMiss_32 rfl 0 rfl rfl ?_
      refine gf_X3_25 (v := .ref (ma 6)) (n := 36) hC 0 rfl rfl dX3_untilMiss_33 rfl ?_
      refine z_bipush (v := nI 13) (n := 38) hC dX3_untilMiss_36 (by decide) rfl ?_
      refine z_iload_n (n := 39) hC dX3_untilMiss_38 rfl 1 rfl rfl ?_
      refine z_iadd (v := nI (13 + g)) (n := 40) hC dX3_untilMiss_39 (nI_add 13 g) rfl ?_
      refine z_iald (v := mi g) (n := 41) hC 6 0 (13 + g) rfl rfl rfl (by omega) (by decide) dX3_untilMiss_40 ((sb_cpy0 (by omega)).trans (nw_mi (by omega))) rfl ?_
      cases hb : miB sw b r T g i
      · refine z_icmp_le (tgt := 46) (n := 44) hC dX3_untilMiss_41 (by decide) rfl (fun c16 => ?_) (fun c16 => absurd (um_le _) c16)
        refine z_iinc (k0 := 3) (v := nI (i + 1 + 1)) (lv' := [(3, .int (nI (i + 1 + 1))), (0, .ref (ma 0)), (1, .int (nI g)), (2, .int (-1))]) (n := 49) hC dX3_untilMiss_46 rfl (nI_add (i + 1) 1) (by decide) rfl rfl ?_
        refine z_goto (n := 8) hC dX3_untilMiss_49 (by decide) ?_
        refine z_lv [1, 2, 3, 0] (lv' := [(0, .ref (ma 0)), (1, .int (nI g)), (2, .int (-1)), (3, .int (nI (i + 1 + 1)))]) rfl ?_
        refine z_leq (lv' := [(0, .ref (ma 0)), (1, .int (nI g)), (2, .int (umS (miB sw b r T g) (i + 1))), (3, .int (nI (i + 1 + 1)))]) (by rw [umS_no (fiN_none hf) hb]) ?_
        exact ih (i + 1) () (by omega) (by omega) trivial
      · refine z_icmp_le (tgt := 46) (n := 44) hC dX3_untilMiss_41 (by decide) rfl (fun c17 => absurd c17 (um_lt hmi)) (fun c17 => ?_)
        refine z_iload_n (n := 45) hC dX3_untilMiss_44 rfl 3 rfl rfl ?_
        refine z_istore_n (lv' := [(2, .int (nI (i + 1))), (0, .ref (ma 0)), (1, .int (nI g)), (3, .int (nI (i + 1)))]) (n := 46) hC dX3_untilMiss_45 rfl (by decide) rfl rfl ?_
        refine z_iinc (k0 := 3) (v := nI (i + 1 + 1)) (lv' := [(3, .int (nI (i + 1 + 1))), (2, .int (nI (i + 1))), (0, .ref (ma 0)), (1, .int (nI g))]) (n := 49) hC dX3_untilMiss_46 rfl (nI_add (i + 1) 1) (by decide) rfl rfl ?_
        refine z_goto (n := 8) hC dX3_untilMiss_49 (by decide) ?_
        refine z_lv [2, 3, 1, 0] (lv' := [(0, .ref (ma 0)), (1, .int (nI g)), (2, .int (nI (i + 1))), (3, .int (nI (i + 1 + 1)))]) rfl ?_
        refine z_leq (lv' := [(0, .ref (ma 0)), (1, .int (nI g)), (2, .int (umS (miB sw b r T g) (i + 1))), (3, .int (nI (i + 1 + 1)))]) (by rw [umS_yes (fiN_none hf) hb]) ?_
        exact ih (i + 1) () (by omega) (by omega) trivial

set_option maxRecDepth 100000 in
set_option maxHeartbeats 4000000 in
theorem k_X3_turnsUntilMiss (l : Launch) (G : va_G) (cI cZ cJ : ClassId) (ma : Nat → Nat) (th : Int32) (n : Nat) (sw : Nat → Int32) (st : Nat → Int32) (b : Nat → Int32) (r : Nat → Int32) (T : Nat) (sc : Nat → Int32) (fi : Nat → Int32) (mi : Nat → Int32) (fa : Nat → Int32) (K : Nat → Int32) (g : Nat) (hn : n ≤ 6) (hT : T + 200 < 2 ^ 29) (hg : g < n) (hst : ∀ g, g < n → nI 1 ≤ st g) (hfa : inN (fa g) (2 ^ 28)) (hmi : inN (mi g) (2 ^ 30)) (ham : ∀ zt : Nat, inN (amF b r zt g) 1000) : MI (Unit) l yX3_turnsUntilMiss cX3_turnsUntilMiss 2 6 130 G (tY cI cZ cJ) [.ref (ma 0), .int (nI g)] (wN ma cI th n sw st b r T sc fi mi fa K) (fun zr _ => zr = umF (miB sw b r T g) 100) (fun _ => wN ma cI (nI 0) n sw st b r T sc fi mi fa (va_cpy (nowF T sc fi mi fa) K 0 0 25)) 0 0 := by
  refine MI_of (by decide) (Nat.le_of_ble_eq_true rfl) [(0, .ref (ma 0)), (1, .int (nI g))] rfl ?_
  intro p e s m below meth c hC hr hlocks hname
  have hC : Cx p s m _ c cX3_turnsUntilMiss 2 RX3 G (tY cI cZ cJ) _ := hC
  refine z_aload_n (n := 1) hC dX3_turnsUntilMiss_0 rfl 0 rfl rfl ?_
  refine z_iconst (v := nI 0) (n := 2) hC dX3_turnsUntilMiss_1 (by decide) rfl ?_
  refine pf_X3_28 (ws' := wN ma cI (nI 0) n sw st b r T sc fi mi fa K) (n := 5) hC 0 rfl (Nat.le_of_ble_eq_true rfl) dX3_turnsUntilMiss_2 rfl rfl ?_
  refine z_aload_n (n := 6) hC dX3_turnsUntilMiss_5 rfl 0 rfl rfl ?_
  refine z_iload_n (n := 7) hC dX3_turnsUntilMiss_6 rfl 1 rfl rfl ?_
  refine z_callb (R := { frames := 6, cells := 0, slots := 0, locals := 130 }) (cells := 0) (slots := 0) (ws := wN ma cI (nI 0) n sw st b r T sc fi mi fa K) (n := 10) (As := [.int (nI g)]) (rest := []) hC (k_X3_isGun_t l G cI cZ cJ ma (nI 0) n sw st b r T sc fi mi fa K g (by omega) hg) kg_X3_95 kd_yX3_isGun dX3_turnsUntilMiss_7 ⟨Nat.le_of_ble_eq_true rfl, Nat.le_of_ble_eq_true rfl⟩ 0 rfl rfl rfl [0, 1, 2, 3, 4, 5, 6] rfl (by decide) rfl (Nat.le_of_ble_eq_true rfl) ⟨Nat.le_of_ble_eq_true rfl, Nat.le_of_ble_eq_true rfl⟩ (ws2 := fun u1 => wN ma cI (nI 0) n sw st b r T sc fi mi fa K) [] (fun _ => rfl) ([]) (fun _ => rfl) rfl (fun _ => rfl) [ma 0, ma 1, ma 2, ma 3, ma 4, ma 5, ma 6] (fun _ => rfl) rfl rfl rfl (fun r2 u1 h3 => ?_)
  subst h3
  refine z_if_eq_b (tgt := 21) (n := 13) hC true rfl dX3_turnsUntilMiss_10 (by decide) rfl (fun c4 => absurd c4 (by decide)) (fun c4 => ?_)
  refine z_aload_n (n := 14) hC dX3_turnsUntilMiss_13 rfl 0 rfl rfl ?_
  refine z_iload_n (n := 15) hC dX3_turnsUntilMiss_14 rfl 1 rfl rfl ?_
  refine z_calli (R := { frames := 6, cells := 0, slots := 0, locals := 130 }) (cells := 0) (slots := 0) (ws := wN ma cI (nI 0) n sw st b r T sc fi mi fa K) (n := 18) (As := [.int (nI g)]) (rest := []) hC (k_X3_untilMiss l G cI cZ cJ ma (nI 0) n sw st b r T sc fi mi fa K g (by omega) (by omega) hg hst hfa hmi ham) kg_X3_126 kd_yX3_untilMiss dX3_turnsUntilMiss_15 ⟨Nat.le_of_ble_eq_true rfl, Nat.le_of_ble_eq_true rfl⟩ 0 rfl rfl rfl [0, 1, 2, 3, 4, 5, 6] rfl (by decide) rfl (Nat.le_of_ble_eq_true rfl) ⟨Nat.le_of_ble_eq_true rfl, Nat.le_of_ble_eq_true rfl⟩ (ws2 := fun u5 => wN ma cI (nI 0) n sw st b r T sc fi mi fa (va_cpy (nowF T sc fi mi fa) K 0 0 25)) [] (fun _ => rfl) ([]) (fun _ => rfl) rfl (fun _ => rfl) [ma 0, ma 1, ma 2, ma 3, ma 4, ma 5, ma 6] (fun _ => rfl) rfl rfl rfl (fun r6 u5 h7 => ?_)
  rw [show r6 = umF (miB sw b r T g) 100 from h7]
  refine z_goto (n := 26) hC dX3_turnsUntilMiss_18 (by decide) ?_
  refine z_iret hC hr hlocks () ?_ rfl dX3_turnsUntilMiss_26 (by omega) (by omega)
  exact Eq.refl (umF (miB sw b r T g) 100)

set_option maxRecDepth 100000 in
set_option maxHeartbeats 4000000 in
theorem k_X3_turnsUntilMiss_x (l : Launch) (G : va_G) (cI cZ cJ : ClassId) (ma : Nat → Nat) (th : Int32) (n : Nat) (sw : Nat → Int32) (st : Nat → Int32) (b : Nat → Int32) (r : Nat → Int32) (T : Nat) (sc : Nat → Int32) (fi : Nat → Int32) (mi : Nat → Int32) (fa : Nat → Int32) (K : Nat → Int32) (x : Int32) (hn : n ≤ 6) (hT : T + 200 < 2 ^ 29) (hb : x < 0 ∨ nI n ≤ x) : MI (Unit) l yX3_turnsUntilMiss cX3_turnsUntilMiss 2 2 43 G (tY cI cZ cJ) [.ref (ma 0), .int x] (wN ma cI th n sw st b r T sc fi mi fa K) (fun zr _ => zr = nI 0) (fun _ => wN ma cI (nI 1) n sw st b r T sc fi mi fa K) 0 0 := by
  refine MI_of (by decide) (Nat.le_of_ble_eq_true rfl) [(0, .ref (ma 0)), (1, .int x)] rfl ?_
  intro p e s m below meth c hC hr hlocks hname
  have hC : Cx p s m _ c cX3_turnsUntilMiss 2 RX3 G (tY cI cZ cJ) _ := hC
  refine z_aload_n (n := 1) hC dX3_turnsUntilMiss_0 rfl 0 rfl rfl ?_
  refine z_iconst (v := nI 0) (n := 2) hC dX3_turnsUntilMiss_1 (by decide) rfl ?_
  refine pf_X3_28 (ws' := wN ma cI (nI 0) n sw st b r T sc fi mi fa K) (n := 5) hC 0 rfl (Nat.le_of_ble_eq_true rfl) dX3_turnsUntilMiss_2 rfl rfl ?_
  refine z_aload_n (n := 6) hC dX3_turnsUntilMiss_5 rfl 0 rfl rfl ?_
  refine z_iload_n (n := 7) hC dX3_turnsUntilMiss_6 rfl 1 rfl rfl ?_
  refine z_callb (R := { frames := 2, cells := 0, slots := 0, locals := 43 }) (cells := 0) (slots := 0) (ws := wN ma cI (nI 0) n sw st b r T sc fi mi fa K) (n := 10) (As := [.int x]) (rest := []) hC (k_X3_isGun_f l G cI cZ cJ ma (nI 0) n sw st b r T sc fi mi fa K x (by omega) hb) kg_X3_95 kd_yX3_isGun dX3_turnsUntilMiss_7 ⟨Nat.le_of_ble_eq_true rfl, Nat.le_of_ble_eq_true rfl⟩ 0 rfl rfl rfl [0, 1, 2, 3, 4, 5, 6] rfl (by decide) rfl (Nat.le_of_ble_eq_true rfl) ⟨Nat.le_of_ble_eq_true rfl, Nat.le_of_ble_eq_true rfl⟩ (ws2 := fun u1 => wN ma cI (nI 0) n sw st b r T sc fi mi fa K) [] (fun _ => rfl) ([]) (fun _ => rfl) rfl (fun _ => rfl) [ma 0, ma 1, ma 2, ma 3, ma 4, ma 5, ma 6] (fun _ => rfl) rfl rfl rfl (fun r2 u1 h3 => ?_)
  subst h3
  refine z_if_eq_b (tgt := 21) (n := 13) hC false rfl dX3_turnsUntilMiss_10 (by decide) rfl (fun c4 => ?_) (fun c4 => absurd c4 (by decide))
  refine z_aload_n (n := 22) hC dX3_turnsUntilMiss_21 rfl 0 rfl rfl ?_
  refine z_iconst (v := nI 1) (n := 23) hC dX3_turnsUntilMiss_22 (by decide) rfl ?_
  refine z_calli (R := { frames := 2, cells := 0, slots := 0, locals := 43 }) (cells := 0) (slots := 0) (ws := wN ma cI (nI 0) n sw st b r T sc fi mi fa K) (n := 26) (As := [.int (nI 1)]) (rest := []) hC (k_X3_no l G cI cZ cJ ma (nI 0) n sw st b r T sc fi mi fa K (nI 1) (by omega) (by omega)) kg_X3_92 kd_yX3_no dX3_turnsUntilMiss_23 ⟨Nat.le_of_ble_eq_true rfl, Nat.le_of_ble_eq_true rfl⟩ 0 rfl rfl rfl [0, 1, 2, 3, 4, 5, 6] rfl (by decide) rfl (Nat.le_of_ble_eq_true rfl) ⟨Nat.le_of_ble_eq_true rfl, Nat.le_of_ble_eq_true rfl⟩ (ws2 := fun u5 => wN ma cI (nI 1) n sw st b r T sc fi mi fa K) [] (fun _ => rfl) ([]) (fun _ => rfl) rfl (fun _ => rfl) [ma 0, ma 1, ma 2, ma 3, ma 4, ma 5, ma 6] (fun _ => rfl) rfl rfl rfl (fun r6 u5 h7 => ?_)
  subst h7
  refine z_iret hC hr hlocks () ?_ rfl dX3_turnsUntilMiss_26 (by omega) (by omega)
  rfl
