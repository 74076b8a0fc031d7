set_option maxRecDepth 100000 in
set_option maxHeartbeats 4000000 in
theorem k_X0_countLeft (l : Launch) (G : va_G) (cI cZ cJ : ClassId) (a : Nat → Nat) (sw : Nat → Int32) (st : Nat → Int32) (fa : Nat → Int32) (sc : Nat → Int32) (fi : Nat → Int32) (mi : Nat → Int32) (lf : Nat → Bool) (hi : Nat → Bool) (n : Nat) (hn : n ≤ 6) : MI (Unit) l yX0_countLeft cX0_countLeft 3 0 0 G (tY cI cZ cJ) [.ref (a 0)] (wS a cI cZ sw st fa sc fi mi lf hi n) (fun zr _ => zr = nI (ctF lf n)) (fun _ => wS a cI cZ sw st fa sc fi mi lf hi n) 0 0 := by
  refine MI_of (by decide) (Nat.le_of_ble_eq_true rfl) [(0, .ref (a 0))] rfl ?_
  intro p e s m below meth c hC hr hlocks hname
  have hC : Cx p s m _ c cX0_countLeft 3 RX0 G (tY cI cZ cJ) _ := hC
  refine z_iconst (v := nI 0) (n := 1) hC dX0_countLeft_0 (by decide) rfl ?_
  refine z_istore_n (lv' := [(1, .int (nI 0)), (0, .ref (a 0))]) (n := 2) hC dX0_countLeft_1 rfl (by decide) rfl rfl ?_
  refine z_iconst (v := nI 0) (n := 3) hC dX0_countLeft_2 (by decide) rfl ?_
  refine z_istore_n (lv' := [(2, .int (nI 0)), (1, .int (nI 0)), (0, .ref (a 0))]) (n := 4) hC dX0_countLeft_3 rfl (by decide) rfl rfl ?_
  refine z_lv [2, 1, 0] (lv' := [(0, .ref (a 0)), (1, .int (nI (ctF lf 0))), (2, .int (nI 0))]) rfl ?_
  refine z_loop n 0 (fun i => wS a cI cZ sw st fa sc fi mi lf hi n) (fun i => [(0, .ref (a 0)), (1, .int (nI (ctF lf i))), (2, .int (nI i))]) (by omega) rfl rfl (fun i hi0 hi1 ih => ?_)
  refine z_iload_n (n := 5) hC dX0_countLeft_4 rfl 2 rfl rfl ?_
  refine z_aload_n (n := 6) hC dX0_countLeft_5 rfl 0 rfl rfl ?_
  refine gf_X0_37 (v := .int (nI n)) (n := 9) hC 0 rfl rfl dX0_countLeft_6 rfl ?_
  refine z_icmp_ge_n (tgt := 30) (n := 12) hC i n rfl rfl (by omega) (by omega) dX0_countLeft_9 (by decide) rfl (fun c1 => ?_) (fun c1 => ?_)
  · obtain rfl : n = i := by omega
    refine z_iload_n (n := 31) hC dX0_countLeft_30 rfl 1 rfl rfl ?_
    refine z_iret hC hr hlocks () ?_ rfl dX0_countLeft_31 (by omega) (by omega)
    rfl
  · refine z_aload_n (n := 13) hC dX0_countLeft_12 rfl 0 rfl rfl ?_
    refine gf_X0_30 (v := .ref (a 7)) (n := 16) hC 0 rfl rfl dX0_countLeft_13 rfl ?_
    refine z_iload_n (n := 17) hC dX0_countLeft_16 rfl 2 rfl rfl ?_
    refine z_zald (v := bN (lf i)) (n := 18) hC 7 1 i rfl rfl rfl (by omega) (by decide) dX0_countLeft_17 rfl rfl ?_
    refine z_if_eq_b (tgt := 24) (n := 21) hC (lf i) rfl dX0_countLeft_18 (by decide) rfl (fun c2 => ?_) (fun c2 => ?_)
    · refine z_iinc (k0 := 2) (v := nI (i + 1)) (lv' := [(2, .int (nI (i + 1))), (0, .ref (a 0)), (1, .int (nI (ctF lf i)))]) (n := 27) hC dX0_countLeft_24 rfl (nI_add i 1) (by decide) rfl rfl ?_
      refine z_goto (n := 4) hC dX0_countLeft_27 (by decide) ?_
      refine z_lv [1, 2, 0] (lv' := [(0, .ref (a 0)), (1, .int (nI (ctF lf i))), (2, .int (nI (i + 1)))]) rfl ?_
      refine z_leq (lv' := [(0, .ref (a 0)), (1, .int (nI (ctF lf (i + 1)))), (2, .int (nI (i + 1)))]) (by simp [ctF, c1, c2]) ?_
      exact ih (i + 1) (by omega) (by omega)
    · refine z_iinc (k0 := 1) (v := nI (ctF lf i + 1)) (lv' := [(1, .int (nI (ctF lf i + 1))), (0, .ref (a 0)), (2, .int (nI i))]) (n := 24) hC dX0_countLeft_21 rfl (nI_add (ctF lf i) 1) (by decide) rfl rfl ?_
      refine z_iinc (k0 := 2) (v := nI (i + 1)) (lv' := [(2, .int (nI (i + 1))), (1, .int (nI (ctF lf i + 1))), (0, .ref (a 0))]) (n := 27) hC dX0_countLeft_24 rfl (nI_add i 1) (by decide) rfl rfl ?_
      refine z_goto (n := 4) hC dX0_countLeft_27 (by decide) ?_
      refine z_lv [2, 1, 0] (lv' := [(0, .ref (a 0)), (1, .int (nI (ctF lf i + 1))), (2, .int (nI (i + 1)))]) rfl ?_
      refine z_leq (lv' := [(0, .ref (a 0)), (1, .int (nI (ctF lf (i + 1)))), (2, .int (nI (i + 1)))]) (by simp [ctF, c1, c2]) ?_
      exact ih (i + 1) (by omega) (by omega)

set_option maxRecDepth 100000 in
set_option maxHeartbeats 4000000 in
theorem k_X0_firstLeft (l : Launch) (G : va_G) (cI cZ cJ : ClassId) (a : Nat → Nat) (sw : Nat → Int32) (st : Nat → Int32) (fa : Nat → Int32) (sc : Nat → Int32) (fi : Nat → Int32) (mi : Nat → Int32) (lf : Nat → Bool) (hi : Nat → Bool) (n : Nat) (hn : n ≤ 6) : MI (Unit) l yX0_firstLeft cX0_firstLeft 2 0 0 G (tY cI cZ cJ) [.ref (a 0)] (wS a cI cZ sw st fa sc fi mi lf hi n) (fun zr _ => zr = fsF lf n) (fun _ => wS a cI cZ sw st fa sc fi mi lf hi n) 0 0 := by
  refine MI_of (by decide) (Nat.le_of_ble_eq_true rfl) [(0, .ref (a 0))] rfl ?_
  intro p e s m below meth c hC hr hlocks hname
  have hC : Cx p s m _ c cX0_firstLeft 2 RX0 G (tY cI cZ cJ) _ := hC
  refine z_iconst (v := nI 0) (n := 1) hC dX0_firstLeft_0 (by decide) rfl ?_
  refine z_istore_n (lv' := [(1, .int (nI 0)), (0, .ref (a 0))]) (n := 2) hC dX0_firstLeft_1 rfl (by decide) rfl rfl ?_
  refine z_lv [1, 0] (lv' := [(0, .ref (a 0)), (1, .int (nI 0))]) rfl ?_
  refine z_loopS (σ := Unit) n 0 (fun i u => ∀ g, g < i → lf g = false) (fun i u => wS a cI cZ sw st fa sc fi mi lf hi n) (fun i u => [(0, .ref (a 0)), (1, .int (nI i))]) (fun _ => 0) (fun _ => 0) () (by omega) (fun g hg => absurd hg (Nat.not_lt_zero g)) rfl rfl (Nat.le_refl _) (Nat.le_refl _) (fun i u hi0 hi1 hu ih => ?_)
  refine z_iload_n (n := 3) hC dX0_firstLeft_2 rfl 1 rfl rfl ?_
  refine z_aload_n (n := 4) hC dX0_firstLeft_3 rfl 0 rfl rfl ?_
  refine gf_X0_37 (v := .int (nI n)) (n := 7) hC 0 rfl rfl dX0_firstLeft_4 rfl ?_
  refine z_icmp_ge_n (tgt := 27) (n := 10) hC i n rfl rfl (by omega) (by omega) dX0_firstLeft_7 (by decide) rfl (fun c1 => ?_) (fun c1 => ?_)
  · obtain rfl : n = i := by omega
    refine z_iconst (v := (-1)) (n := 28) hC dX0_firstLeft_27 (by decide) rfl ?_
    refine z_iret hC hr hlocks () ?_ rfl dX0_firstLeft_28 (by omega) (by omega)
    unfold fsF; rw [fiN_no hu, if_neg (by omega)]
  · refine z_aload_n (n := 11) hC dX0_firstLeft_10 rfl 0 rfl rfl ?_
    refine gf_X0_30 (v := .ref (a 7)) (n := 14) hC 0 rfl rfl dX0_firstLeft_11 rfl ?_
    refine z_iload_n (n := 15) hC dX0_firstLeft_14 rfl 1 rfl rfl ?_
    refine z_zald (v := bN (lf i)) (n := 16) hC 7 1 i rfl rfl rfl (by omega) (by decide) dX0_firstLeft_15 rfl rfl ?_
    refine z_if_eq_b (tgt := 21) (n := 19) hC (lf i) rfl dX0_firstLeft_16 (by decide) rfl (fun c2 => ?_) (fun c2 => ?_)
    · refine z_iinc (k0 := 1) (v := nI (i + 1)) (lv' := [(1, .int (nI (i + 1))), (0, .ref (a 0))]) (n := 24) hC dX0_firstLeft_21 rfl (nI_add i 1) (by decide) rfl rfl ?_
      refine z_goto (n := 2) hC dX0_firstLeft_24 (by decide) ?_
      refine z_lv [1, 0] (lv' := [(0, .ref (a 0)), (1, .int (nI (i + 1)))]) rfl ?_
      exact ih (i + 1) () (by omega) (by omega) (no_step hu c2)
    · refine z_iload_n (n := 20) hC dX0_firstLeft_19 rfl 1 rfl rfl ?_
      refine z_iret hC hr hlocks () ?_ rfl dX0_firstLeft_20 (by omega) (by omega)
      unfold fsF; rw [fiN_yes hu c2 (by omega), if_pos (by omega)]

set_option maxRecDepth 100000 in
set_option maxHeartbeats 4000000 in
theorem k_X0_keepThoseWhoHit (l : Launch) (G : va_G) (cI cZ cJ : ClassId) (a : Nat → Nat) (sw : Nat → Int32) (st : Nat → Int32) (fa : Nat → Int32) (sc : Nat → Int32) (fi : Nat → Int32) (mi : Nat → Int32) (lf : Nat → Bool) (hi : Nat → Bool) (n : Nat) (hn : n ≤ 6) : MV (Unit) l yX0_keepThoseWhoHit cX0_keepThoseWhoHit 2 0 0 G (tY cI cZ cJ) [.ref (a 0)] (wS a cI cZ sw st fa sc fi mi lf hi n) (fun _ => True) (fun _ => wS a cI cZ sw st fa sc fi mi (pwF lf hi n) hi n) 0 0 := by
  refine MV_of (by decide) (Nat.le_of_ble_eq_true rfl) [(0, .ref (a 0))] rfl ?_
  intro p e s m below meth c hC hr hlocks hname
  have hC : Cx p s m _ c cX0_keepThoseWhoHit 2 RX0 G (tY cI cZ cJ) _ := hC
  refine z_iconst (v := nI 0) (n := 1) hC dX0_keepThoseWhoHit_0 (by decide) rfl ?_
  refine z_istore_n (lv' := [(1, .int (nI 0)), (0, .ref (a 0))]) (n := 2) hC dX0_keepThoseWhoHit_1 rfl (by decide) rfl rfl ?_
  refine z_lv [1, 0] (lv' := [(0, .ref (a 0)), (1, .int (nI 0))]) rfl ?_
  refine z_weq (ws' := wS a cI cZ sw st fa sc fi mi (pwF lf hi 0) hi n) (by simp only [pwF_0]) ?_
  refine z_loop n 0 (fun i => wS a cI cZ sw st fa sc fi mi (pwF lf hi i) hi n) (fun i => [(0, .ref (a 0)), (1, .int (nI i))]) (by omega) rfl rfl (fun i hi0 hi1 ih => ?_)
  refine z_iload_n (n := 3) hC dX0_keepThoseWhoHit_2 rfl 1 rfl rfl ?_
  refine z_aload_n (n := 4) hC dX0_keepThoseWhoHit_3 rfl 0 rfl rfl ?_
  refine gf_X0_37 (v := .int (nI n)) (n := 7) hC 0 rfl rfl dX0_keepThoseWhoHit_4 rfl ?_
  refine z_icmp_ge_n (tgt := 28) (n := 10) hC i n rfl rfl (by omega) (by omega) dX0_keepThoseWhoHit_7 (by decide) rfl (fun c1 => ?_) (fun c1 => ?_)
  · obtain rfl : n = i := by omega
    refine z_vret hC hr hlocks () ?_ rfl dX0_keepThoseWhoHit_28 (by omega) (by omega)
    trivial
  · refine z_aload_n (n := 11) hC dX0_keepThoseWhoHit_10 rfl 0 rfl rfl ?_
    refine gf_X0_30 (v := .ref (a 7)) (n := 14) hC 0 rfl rfl dX0_keepThoseWhoHit_11 rfl ?_
    refine z_iload_n (n := 15) hC dX0_keepThoseWhoHit_14 rfl 1 rfl rfl ?_
    refine z_aload_n (n := 16) hC dX0_keepThoseWhoHit_15 rfl 0 rfl rfl ?_
    refine gf_X0_34 (v := .ref (a 8)) (n := 19) hC 0 rfl rfl dX0_keepThoseWhoHit_16 rfl ?_
    refine z_iload_n (n := 20) hC dX0_keepThoseWhoHit_19 rfl 1 rfl rfl ?_
    refine z_zald (v := bN (hi i)) (n := 21) hC 8 1 i rfl rfl rfl (by omega) (by decide) dX0_keepThoseWhoHit_20 rfl rfl ?_
    refine z_zast (ws' := wS a cI cZ sw st fa sc fi mi (pwF lf hi (i + 1)) hi n) (n := 22) hC 7 1 i rfl rfl rfl (by omega) (by decide) (nar_b (b := hi i)) dX0_keepThoseWhoHit_21 (bI_pw (b := hi i) rfl) rfl rfl ?_
    refine z_iinc (k0 := 1) (v := nI (i + 1)) (lv' := [(1, .int (nI (i + 1))), (0, .ref (a 0))]) (n := 25) hC dX0_keepThoseWhoHit_22 rfl (nI_add i 1) (by decide) rfl rfl ?_
    refine z_goto (n := 2) hC dX0_keepThoseWhoHit_25 (by decide) ?_
    refine z_lv [1, 0] (lv' := [(0, .ref (a 0)), (1, .int (nI (i + 1)))]) rfl ?_
    exact ih (i + 1) (by omega) (by omega)

set_option maxRecDepth 100000 in
set_option maxHeartbeats 4000000 in
/-- a round of a shoot-off -/
theorem k_X0_shootRound (l : Launch) (G : va_G) (cI cZ cJ : ClassId) (a : Nat → Nat) (sw : Nat → Int32) (st : Nat → Int32) (fa : Nat → Int32) (sc : Nat → Int32) (fi : Nat → Int32) (mi : Nat → Int32) (lf : Nat → Bool) (hi : Nat → Bool) (n : Nat) (am : Int32) (hn : n ≤ 6) : MV (Unit) l yX0_shootRound cX0_shootRound 4 1 23 G (tY cI cZ cJ) [.ref (a 0), .int am] (wS a cI cZ sw st fa sc fi mi lf hi n) (fun _ => True) (fun _ => wS a cI cZ sw st (pwF fa (upA fa lf) n) sc fi mi (soL sw st fa lf n am) (pwF hi (htB sw st fa lf am) n) n) 0 0 := by
  refine MV_of (by decide) (Nat.le_of_ble_eq_true rfl) [(0, .ref (a 0)), (1, .int am)] rfl ?_
  intro p e s m below meth c hC hr hlocks hname
  have hC : Cx p s m _ c cX0_shootRound 4 RX0 G (tY cI cZ cJ) _ := hC
  refine z_iconst (v := nI 0) (n := 1) hC dX0_shootRound_0 (by decide) rfl ?_
  refine z_istore_n (lv' := [(2, .int (nI 0)), (0, .ref (a 0)), (1, .int am)]) (n := 2) hC dX0_shootRound_1 rfl (by decide) rfl rfl ?_
  refine z_iconst (v := nI 0) (n := 3) hC dX0_shootRound_2 (by decide) rfl ?_
  refine z_istore_n (lv' := [(3, .int (nI 0)), (2, .int (nI 0)), (0, .ref (a 0)), (1, .int am)]) (n := 4) hC dX0_shootRound_3 rfl (by decide) rfl rfl ?_
  refine z_lv [2, 3, 1, 0] (lv' := [(0, .ref (a 0)), (1, .int am), (2, .int (bN (anB (htB sw st fa lf am) 0))), (3, .int (nI 0))]) rfl ?_
  refine z_weq (ws' := wS a cI cZ sw st (pwF fa (upA fa lf) 0) sc fi mi lf (pwF hi (htB sw st fa lf am) 0) n) (by simp only [pwF_0]) ?_
  refine z_loop n 0 (fun i => wS a cI cZ sw st (pwF fa (upA fa lf) i) sc fi mi lf (pwF hi (htB sw st fa lf am) i) n) (fun i => [(0, .ref (a 0)), (1, .int am), (2, .int (bN (anB (htB sw st fa lf am) i))), (3, .int (nI i))]) (by omega) rfl rfl (fun i hi0 hi1 ih => ?_)
  refine z_iload_n (n := 5) hC dX0_shootRound_4 rfl 3 rfl rfl ?_
  refine z_aload_n (n := 6) hC dX0_shootRound_5 rfl 0 rfl rfl ?_
  refine gf_X0_37 (v := .int (nI n)) (n := 9) hC 0 rfl rfl dX0_shootRound_6 rfl ?_
  refine z_icmp_ge_n (tgt := 91) (n := 12) hC i n rfl rfl (by omega) (by omega) dX0_shootRound_9 (by decide) rfl (fun c1 => ?_) (fun c1 => ?_)
  · obtain rfl : n = i := by omega
    refine z_iload_n (n := 92) hC dX0_shootRound_91 rfl 2 rfl rfl ?_
    refine z_if_eq_b (tgt := 99) (n := 95) hC (anB (htB sw st fa lf am) n) rfl dX0_shootRound_92 (by decide) rfl (fun c2 => ?_) (fun c2 => ?_)
    · refine z_vret hC hr hlocks () ?_ (by simp [soL, pwF_pw, c1, c2]) dX0_shootRound_99 (by omega) (by omega)
      trivial
    · refine z_aload_n (n := 96) hC dX0_shootRound_95 rfl 0 rfl rfl ?_
      refine z_callv (R := { frames := 1, cells := 0, slots := 0, locals := 23 }) (cells := 0) (slots := 0) (ws := wS a cI cZ sw st (pwF fa (upA fa lf) n) sc fi mi lf (pwF hi (htB sw st fa lf am) n) n) (n := 99) (As := []) (rest := []) hC (k_X0_keepThoseWhoHit l G cI cZ cJ a sw st (pwF fa (upA fa lf) n) sc fi mi lf (pwF hi (htB sw st fa lf am) n) n (by omega)) kg_X0_84 kd_yX0_keepThoseWhoHit dX0_shootRound_96 ⟨Nat.le_of_ble_eq_true rfl, Nat.le_of_ble_eq_true rfl⟩ 0 rfl rfl rfl [0, 1, 2, 3, 4, 5, 6, 7, 8] rfl (by decide) rfl (Nat.le_of_ble_eq_true rfl) ⟨Nat.le_of_ble_eq_true rfl, Nat.le_of_ble_eq_true rfl⟩ (ws2 := fun u3 => wS a cI cZ sw st (pwF fa (upA fa lf) n) sc fi mi (pwF lf (pwF hi (htB sw st fa lf am) n) n) (pwF hi (htB sw st fa lf am) n) n) [] (fun _ => rfl) ([]) (fun _ => rfl) rfl (fun _ => rfl) [a 0, a 1, a 2, a 3, a 4, a 5, a 6, a 7, a 8] (fun _ => rfl) rfl rfl rfl (fun u3 h5 => ?_)
      refine z_vret hC hr hlocks () ?_ (by simp [soL, pwF_pw, c1, c2]) dX0_shootRound_99 (by omega) (by omega)
      trivial
  · refine z_aload_n (n := 13) hC dX0_shootRound_12 rfl 0 rfl rfl ?_
    refine gf_X0_34 (v := .ref (a 8)) (n := 16) hC 0 rfl rfl dX0_shootRound_13 rfl ?_
    refine z_iload_n (n := 17) hC dX0_shootRound_16 rfl 3 rfl rfl ?_
    refine z_aload_n (n := 18) hC dX0_shootRound_17 rfl 0 rfl rfl ?_
    refine gf_X0_30 (v := .ref (a 7)) (n := 21) hC 0 rfl rfl dX0_shootRound_18 rfl ?_
    refine z_iload_n (n := 22) hC dX0_shootRound_21 rfl 3 rfl rfl ?_
    refine z_zald (v := bN (lf i)) (n := 23) hC 7 1 i rfl rfl rfl (by omega) (by decide) dX0_shootRound_22 rfl rfl ?_
    refine z_if_eq_b (tgt := 45) (n := 26) hC (lf i) rfl dX0_shootRound_23 (by decide) rfl (fun c6 => ?_) (fun c6 => ?_)
    · refine z_iconst (v := nI 0) (n := 46) hC dX0_shootRound_45 (by decide) rfl ?_
      refine z_zast (ws' := wS a cI cZ sw st (pwF fa (upA fa lf) i) sc fi mi lf (pwF hi (htB sw st fa lf am) (i + 1)) n) (n := 47) hC 8 1 i rfl rfl rfl (by omega) (by decide) (nar_b (b := false)) dX0_shootRound_46 (bI_pw (b := false) (by simp [htB, c1, c6])) rfl rfl ?_
      refine z_iload_n (n := 48) hC dX0_shootRound_47 rfl 2 rfl rfl ?_
      refine z_if_ne_b (tgt := 60) (n := 51) hC (anB (htB sw st fa lf am) i) rfl dX0_shootRound_48 (by decide) rfl (fun c7 => ?_) (fun c7 => ?_)
      · refine z_iconst (v := nI 1) (n := 61) hC dX0_shootRound_60 (by decide) rfl ?_
        refine z_goto (n := 65) hC dX0_shootRound_61 (by decide) ?_
        refine z_istore_n (lv' := [(2, .int (nI 1)), (0, .ref (a 0)), (1, .int am), (3, .int (nI i))]) (n := 66) hC dX0_shootRound_65 rfl (by decide) rfl rfl ?_
        refine z_aload_n (n := 67) hC dX0_shootRound_66 rfl 1 rfl rfl ?_
        refine gf_X0_30 (v := .ref (a 7)) (n := 70) hC 0 rfl rfl dX0_shootRound_67 rfl ?_
        refine z_iload_n (n := 71) hC dX0_shootRound_70 rfl 3 rfl rfl ?_
        refine z_zald (v := bN (lf i)) (n := 72) hC 7 1 i rfl rfl rfl (by omega) (by decide) dX0_shootRound_71 rfl rfl ?_
        refine z_if_eq_b (tgt := 85) (n := 75) hC (lf i) rfl dX0_shootRound_72 (by decide) rfl (fun c8 => ?_) (fun c8 => absurd (c6.symm.trans c8) (by decide))
        refine z_iinc (k0 := 3) (v := nI (i + 1)) (lv' := [(3, .int (nI (i + 1))), (2, .int (nI 1)), (0, .ref (a 0)), (1, .int am)]) (n := 88) hC dX0_shootRound_85 rfl (nI_add i 1) (by decide) rfl rfl ?_
        refine z_goto (n := 4) hC dX0_shootRound_88 (by decide) ?_
        refine z_lv [2, 3, 1, 0] (lv' := [(0, .ref (a 0)), (1, .int am), (2, .int (nI 1)), (3, .int (nI (i + 1)))]) rfl ?_
        refine z_leq (lv' := [(0, .ref (a 0)), (1, .int am), (2, .int (bN (anB (htB sw st fa lf am) (i + 1)))), (3, .int (nI (i + 1)))]) (by simp [anB, bN, c1, c6, c7]) ?_
        refine z_weq (ws' := wS a cI cZ sw st (pwF fa (upA fa lf) (i + 1)) sc fi mi lf (pwF hi (htB sw st fa lf am) (i + 1)) n) (by rw [pwF_k (f := fa) (h := upA fa lf) (k := i) (by simp [upA, c1, c6, c7])]) ?_
        exact ih (i + 1) (by omega) (by omega)
      · refine z_aload_n (n := 52) hC dX0_shootRound_51 rfl 0 rfl rfl ?_
        refine gf_X0_34 (v := .ref (a 8)) (n := 55) hC 0 rfl rfl dX0_shootRound_52 rfl ?_
        refine z_iload_n (n := 56) hC dX0_shootRound_55 rfl 3 rfl rfl ?_
        refine z_zald (v := bN ((htB sw st fa lf am) i)) (n := 57) hC 8 1 i rfl rfl rfl (by omega) (by decide) dX0_shootRound_56 (congrArg bN (pwF_lt (Nat.lt_succ_self _))) rfl ?_
        refine z_if_eq_b (tgt := 64) (n := 60) hC ((htB sw st fa lf am) i) rfl dX0_shootRound_57 (by decide) rfl (fun c9 => ?_) (fun c9 => ?_)
        · refine z_iconst (v := nI 0) (n := 65) hC dX0_shootRound_64 (by decide) rfl ?_
          refine z_istore_n (lv' := [(2, .int (nI 0)), (0, .ref (a 0)), (1, .int am), (3, .int (nI i))]) (n := 66) hC dX0_shootRound_65 rfl (by decide) rfl rfl ?_
          refine z_aload_n (n := 67) hC dX0_shootRound_66 rfl 1 rfl rfl ?_
          refine gf_X0_30 (v := .ref (a 7)) (n := 70) hC 0 rfl rfl dX0_shootRound_67 rfl ?_
          refine z_iload_n (n := 71) hC dX0_shootRound_70 rfl 3 rfl rfl ?_
          refine z_zald (v := bN (lf i)) (n := 72) hC 7 1 i rfl rfl rfl (by omega) (by decide) dX0_shootRound_71 rfl rfl ?_
          refine z_if_eq_b (tgt := 85) (n := 75) hC (lf i) rfl dX0_shootRound_72 (by decide) rfl (fun c10 => ?_) (fun c10 => absurd (c6.symm.trans c10) (by decide))
          refine z_iinc (k0 := 3) (v := nI (i + 1)) (lv' := [(3, .int (nI (i + 1))), (2, .int (nI 0)), (0, .ref (a 0)), (1, .int am)]) (n := 88) hC dX0_shootRound_85 rfl (nI_add i 1) (by decide) rfl rfl ?_
          refine z_goto (n := 4) hC dX0_shootRound_88 (by decide) ?_
          refine z_lv [2, 3, 1, 0] (lv' := [(0, .ref (a 0)), (1, .int am), (2, .int (nI 0)), (3, .int (nI (i + 1)))]) rfl ?_
          refine z_leq (lv' := [(0, .ref (a 0)), (1, .int am), (2, .int (bN (anB (htB sw st fa lf am) (i + 1)))), (3, .int (nI (i + 1)))]) (by simp [anB, bN, c1, c6, c7, c9]) ?_
          refine z_weq (ws' := wS a cI cZ sw st (pwF fa (upA fa lf) (i + 1)) sc fi mi lf (pwF hi (htB sw st fa lf am) (i + 1)) n) (by rw [pwF_k (f := fa) (h := upA fa lf) (k := i) (by simp [upA, c1, c6, c7, c9])]) ?_
          exact ih (i + 1) (by omega) (by omega)
        · refine z_iconst (v := nI 1) (n := 61) hC dX0_shootRound_60 (by decide) rfl ?_
          refine z_goto (n := 65) hC dX0_shootRound_61 (by decide) ?_
          refine z_istore_n (lv' := [(2, .int (nI 1)), (0, .ref (a 0)), (1, .int am), (3, .int (nI i))]) (n := 66) hC dX0_shootRound_65 rfl (by decide) rfl rfl ?_
          refine z_aload_n (n := 67) hC dX0_shootRound_66 rfl 1 rfl rfl ?_
          refine gf_X0_30 (v := .ref (a 7)) (n := 70) hC 0 rfl rfl dX0_shootRound_67 rfl ?_
          refine z_iload_n (n := 71) hC dX0_shootRound_70 rfl 3 rfl rfl ?_
          refine z_zald (v := bN (lf i)) (n := 72) hC 7 1 i rfl rfl rfl (by omega) (by decide) dX0_shootRound_71 rfl rfl ?_
          refine z_if_eq_b (tgt := 85) (n := 75) hC (lf i) rfl dX0_shootRound_72 (by decide) rfl (fun c11 => ?_) (fun c11 => absurd (c6.symm.trans c11) (by decide))
          refine z_iinc (k0 := 3) (v := nI (i + 1)) (lv' := [(3, .int (nI (i + 1))), (2, .int (nI 1)), (0, .ref (a 0)), (1, .int am)]) (n := 88) hC dX0_shootRound_85 rfl (nI_add i 1) (by decide) rfl rfl ?_
          refine z_goto (n := 4) hC dX0_shootRound_88 (by decide) ?_
          refine z_lv [2, 3, 1, 0] (lv' := [(0, .ref (a 0)), (1, .int am), (2, .int (nI 1)), (3, .int (nI (i + 1)))]) rfl ?_
          refine z_leq (lv' := [(0, .ref (a 0)), (1, .int am), (2, .int (bN (anB (htB sw st fa lf am) (i + 1)))), (3, .int (nI (i + 1)))]) (by simp [anB, bN, c1, c6, c7, c9]) ?_
          refine z_weq (ws' := wS a cI cZ sw st (pwF fa (upA fa lf) (i + 1)) sc fi mi lf (pwF hi (htB sw st fa lf am) (i + 1)) n) (by rw [pwF_k (f := fa) (h := upA fa lf) (k := i) (by simp [upA, c1, c6, c7, c9])]) ?_
          exact ih (i + 1) (by omega) (by omega)
    · refine z_aload_n (n := 27) hC dX0_shootRound_26 rfl 0 rfl rfl ?_
      refine z_iload_n (n := 28) hC dX0_shootRound_27 rfl 3 rfl rfl ?_
      refine z_iload_n (n := 29) hC dX0_shootRound_28 rfl 1 rfl rfl ?_
      refine z_calli (R := { frames := 1, cells := 0, slots := 0, locals := 23 }) (cells := 0) (slots := 0) (ws := wS a cI cZ sw st (pwF fa (upA fa lf) i) sc fi mi lf (pwF hi (htB sw st fa lf am) i) n) (n := 32) (As := [.int (nI i), .int am]) (rest := [.int (nI i), .ref (a 8)]) hC (k_X0_trouble l G cI cZ cJ a sw st (pwF fa (upA fa lf) i) sc fi mi lf (pwF hi (htB sw st fa lf am) i) n i am (by omega)) kg_X0_41 kd_yX0_trouble dX0_shootRound_29 ⟨Nat.le_of_ble_eq_true rfl, Nat.le_of_ble_eq_true rfl⟩ 0 rfl rfl rfl [0, 1, 2, 3, 4, 5, 6, 7, 8] rfl (by decide) rfl (Nat.le_of_ble_eq_true rfl) ⟨Nat.le_of_ble_eq_true rfl, Nat.le_of_ble_eq_true rfl⟩ (ws2 := fun u12 => wS a cI cZ sw st (pwF fa (upA fa lf) i) sc fi mi lf (pwF hi (htB sw st fa lf am) i) n) [] (fun _ => rfl) ([]) (fun _ => rfl) rfl (fun _ => rfl) [a 0, a 1, a 2, a 3, a 4, a 5, a 6, a 7, a 8] (fun _ => rfl) rfl rfl rfl (fun r13 u12 h14 => ?_)
      subst h14
      refine z_top (y := trF (st i) (fa i) am) (by rw [pwF_at (Nat.le_refl _)]) ?_
      refine z_aload_n (n := 33) hC dX0_shootRound_32 rfl 0 rfl rfl ?_
      refine gf_X0_9 (v := .ref (a 1)) (n := 36) hC 0 rfl rfl dX0_shootRound_33 rfl ?_
      refine z_iload_n (n := 37) hC dX0_shootRound_36 rfl 3 rfl rfl ?_
      refine z_iald (v := sw i) (n := 38) hC 1 0 i rfl rfl rfl (by omega) (by decide) dX0_shootRound_37 rfl rfl ?_
      refine z_icmp_gt (tgt := 45) (n := 41) hC dX0_shootRound_38 (by decide) rfl (fun c15 => ?_) (fun c15 => ?_)
      · refine z_iconst (v := nI 0) (n := 46) hC dX0_shootRound_45 (by decide) rfl ?_
        refine z_zast (ws' := wS a cI cZ sw st (pwF fa (upA fa lf) i) sc fi mi lf (pwF hi (htB sw st fa lf am) (i + 1)) n) (n := 47) hC 8 1 i rfl rfl rfl (by omega) (by decide) (nar_b (b := false)) dX0_shootRound_46 (bI_pw (b := false) (by simp [htB, c1, c6, c15])) rfl rfl ?_
        refine z_iload_n (n := 48) hC dX0_shootRound_47 rfl 2 rfl rfl ?_
        refine z_if_ne_b (tgt := 60) (n := 51) hC (anB (htB sw st fa lf am) i) rfl dX0_shootRound_48 (by decide) rfl (fun c16 => ?_) (fun c16 => ?_)
        · refine z_iconst (v := nI 1) (n := 61) hC dX0_shootRound_60 (by decide) rfl ?_
          refine z_goto (n := 65) hC dX0_shootRound_61 (by decide) ?_
          refine z_istore_n (lv' := [(2, .int (nI 1)), (0, .ref (a 0)), (1, .int am), (3, .int (nI i))]) (n := 66) hC dX0_shootRound_65 rfl (by decide) rfl rfl ?_
          refine z_aload_n (n := 67) hC dX0_shootRound_66 rfl 1 rfl rfl ?_
          refine gf_X0_30 (v := .ref (a 7)) (n := 70) hC 0 rfl rfl dX0_shootRound_67 rfl ?_
          refine z_iload_n (n := 71) hC dX0_shootRound_70 rfl 3 rfl rfl ?_
          refine z_zald (v := bN (lf i)) (n := 72) hC 7 1 i rfl rfl rfl (by omega) (by decide) dX0_shootRound_71 rfl rfl ?_
          refine z_if_eq_b (tgt := 85) (n := 75) hC (lf i) rfl dX0_shootRound_72 (by decide) rfl (fun c17 => absurd (c6.symm.trans c17) (by decide)) (fun c17 => ?_)
          refine z_aload_n (n := 76) hC dX0_shootRound_75 rfl 1 rfl rfl ?_
          refine gf_X0_18 (v := .ref (a 3)) (n := 79) hC 0 rfl rfl dX0_shootRound_76 rfl ?_
          refine z_iload_n (n := 80) hC dX0_shootRound_79 rfl 3 rfl rfl ?_
          refine z_dup2 (n := 81) hC dX0_shootRound_80 rfl rfl rfl ?_
          refine z_iald (v := fa i) (n := 82) hC 3 0 i rfl rfl rfl (by omega) (by decide) dX0_shootRound_81 (pwF_at (Nat.le_refl _)) rfl ?_
          refine z_iconst (v := nI 1) (n := 83) hC dX0_shootRound_82 (by decide) rfl ?_
          refine z_iadd (v := (fa i) + (nI 1)) (n := 84) hC dX0_shootRound_83 rfl rfl ?_
          refine z_iast (ws' := wS a cI cZ sw st (pwF fa (upA fa lf) (i + 1)) sc fi mi lf (pwF hi (htB sw st fa lf am) (i + 1)) n) (n := 85) hC 3 0 i rfl rfl rfl (by omega) (by decide) dX0_shootRound_84 (pwF_e (by simp [upA, c1, c6, c15, c16])) rfl rfl ?_
          refine z_iinc (k0 := 3) (v := nI (i + 1)) (lv' := [(3, .int (nI (i + 1))), (2, .int (nI 1)), (0, .ref (a 0)), (1, .int am)]) (n := 88) hC dX0_shootRound_85 rfl (nI_add i 1) (by decide) rfl rfl ?_
          refine z_goto (n := 4) hC dX0_shootRound_88 (by decide) ?_
          refine z_lv [2, 3, 1, 0] (lv' := [(0, .ref (a 0)), (1, .int am), (2, .int (nI 1)), (3, .int (nI (i + 1)))]) rfl ?_
          refine z_leq (lv' := [(0, .ref (a 0)), (1, .int am), (2, .int (bN (anB (htB sw st fa lf am) (i + 1)))), (3, .int (nI (i + 1)))]) (by simp [anB, bN, c1, c6, c15, c16]) ?_
          exact ih (i + 1) (by omega) (by omega)
        · refine z_aload_n (n := 52) hC dX0_shootRound_51 rfl 0 rfl rfl ?_
          refine gf_X0_34 (v := .ref (a 8)) (n := 55) hC 0 rfl rfl dX0_shootRound_52 rfl ?_
          refine z_iload_n (n := 56) hC dX0_shootRound_55 rfl 3 rfl rfl ?_
          refine z_zald (v := bN ((htB sw st fa lf am) i)) (n := 57) hC 8 1 i rfl rfl rfl (by omega) (by decide) dX0_shootRound_56 (congrArg bN (pwF_lt (Nat.lt_succ_self _))) rfl ?_
          refine z_if_eq_b (tgt := 64) (n := 60) hC ((htB sw st fa lf am) i) rfl dX0_shootRound_57 (by decide) rfl (fun c18 => ?_) (fun c18 => ?_)
          · refine z_iconst (v := nI 0) (n := 65) hC dX0_shootRound_64 (by decide) rfl ?_
            refine z_istore_n (lv' := [(2, .int (nI 0)), (0, .ref (a 0)), (1, .int am), (3, .int (nI i))]) (n := 66) hC dX0_shootRound_65 rfl (by decide) rfl rfl ?_
            refine z_aload_n (n := 67) hC dX0_shootRound_66 rfl 1 rfl rfl ?_
            refine gf_X0_30 (v := .ref (a 7)) (n := 70) hC 0 rfl rfl dX0_shootRound_67 rfl ?_
            refine z_iload_n (n := 71) hC dX0_shootRound_70 rfl 3 rfl rfl ?_
            refine z_zald (v := bN (lf i)) (n := 72) hC 7 1 i rfl rfl rfl (by omega) (by decide) dX0_shootRound_71 rfl rfl ?_
            refine z_if_eq_b (tgt := 85) (n := 75) hC (lf i) rfl dX0_shootRound_72 (by decide) rfl (fun c19 => absurd (c6.symm.trans c19) (by decide)) (fun c19 => ?_)
            refine z_aload_n (n := 76) hC dX0_shootRound_75 rfl 1 rfl rfl ?_
            refine gf_X0_18 (v := .ref (a 3)) (n := 79) hC 0 rfl rfl dX0_shootRound_76 rfl ?_
            refine z_iload_n (n := 80) hC dX0_shootRound_79 rfl 3 rfl rfl ?_
            refine z_dup2 (n := 81) hC dX0_shootRound_80 rfl rfl rfl ?_
            refine z_iald (v := fa i) (n := 82) hC 3 0 i rfl rfl rfl (by omega) (by decide) dX0_shootRound_81 (pwF_at (Nat.le_refl _)) rfl ?_
            refine z_iconst (v := nI 1) (n := 83) hC dX0_shootRound_82 (by decide) rfl ?_
            refine z_iadd (v := (fa i) + (nI 1)) (n := 84) hC dX0_shootRound_83 rfl rfl ?_
            refine z_iast (ws' := wS a cI cZ sw st (pwF fa (upA fa lf) (i + 1)) sc fi mi lf (pwF hi (htB sw st fa lf am) (i + 1)) n) (n := 85) hC 3 0 i rfl rfl rfl (by omega) (by decide) dX0_shootRound_84 (pwF_e (by simp [upA, c1, c6, c15, c16, c18])) rfl rfl ?_
            refine z_iinc (k0 := 3) (v := nI (i + 1)) (lv' := [(3, .int (nI (i + 1))), (2, .int (nI 0)), (0, .ref (a 0)), (1, .int am)]) (n := 88) hC dX0_shootRound_85 rfl (nI_add i 1) (by decide) rfl rfl ?_
            refine z_goto (n := 4) hC dX0_shootRound_88 (by decide) ?_
            refine z_lv [2, 3, 1, 0] (lv' := [(0, .ref (a 0)), (1, .int am), (2, .int (nI 0)), (3, .int (nI (i + 1)))]) rfl ?_
            refine z_leq (lv' := [(0, .ref (a 0)), (1, .int am), (2, .int (bN (anB (htB sw st fa lf am) (i + 1)))), (3, .int (nI (i + 1)))]) (by simp [anB, bN, c1, c6, c15, c16, c18]) ?_
            exact ih (i + 1) (by omega) (by omega)
          · refine z_iconst (v := nI 1) (n := 61) hC dX0_shootRound_60 (by decide) rfl ?_
            refine z_goto (n := 65) hC dX0_shootRound_61 (by decide) ?_
            refine z_istore_n (lv' := [(2, .int (nI 1)), (0, .ref (a 0)), (1, .int am), (3, .int (nI i))]) (n := 66) hC dX0_shootRound_65 rfl (by decide) rfl rfl ?_
            refine z_aload_n (n := 67) hC dX0_shootRound_66 rfl 1 rfl rfl ?_
            refine gf_X0_30 (v := .ref (a 7)) (n := 70) hC 0 rfl rfl dX0_shootRound_67 rfl ?_
            refine z_iload_n (n := 71) hC dX0_shootRound_70 rfl 3 rfl rfl ?_
            refine z_zald (v := bN (lf i)) (n := 72) hC 7 1 i rfl rfl rfl (by omega) (by decide) dX0_shootRound_71 rfl rfl ?_
            refine z_if_eq_b (tgt := 85) (n := 75) hC (lf i) rfl dX0_shootRound_72 (by decide) rfl (fun c20 => absurd (c6.symm.trans c20) (by decide)) (fun c20 => ?_)
            refine z_aload_n (n := 76) hC dX0_shootRound_75 rfl 1 rfl rfl ?_
            refine gf_X0_18 (v := .ref (a 3)) (n := 79) hC 0 rfl rfl dX0_shootRound_76 rfl ?_
            refine z_iload_n (n := 80) hC dX0_shootRound_79 rfl 3 rfl rfl ?_
            refine z_dup2 (n := 81) hC dX0_shootRound_80 rfl rfl rfl ?_
            refine z_iald (v := fa i) (n := 82) hC 3 0 i rfl rfl rfl (by omega) (by decide) dX0_shootRound_81 (pwF_at (Nat.le_refl _)) rfl ?_
            refine z_iconst (v := nI 1) (n := 83) hC dX0_shootRound_82 (by decide) rfl ?_
            refine z_iadd (v := (fa i) + (nI 1)) (n := 84) hC dX0_shootRound_83 rfl rfl ?_
            refine z_iast (ws' := wS a cI cZ sw st (pwF fa (upA fa lf) (i + 1)) sc fi mi lf (pwF hi (htB sw st fa lf am) (i + 1)) n) (n := 85) hC 3 0 i rfl rfl rfl (by omega) (by decide) dX0_shootRound_84 (pwF_e (by simp [upA, c1, c6, c15, c16, c18])) rfl rfl ?_
            refine z_iinc (k0 := 3) (v := nI (i + 1)) (lv' := [(3, .int (nI (i + 1))), (2, .int (nI 1)), (0, .ref (a 0)), (1, .int am)]) (n := 88) hC dX0_shootRound_85 rfl (nI_add i 1) (by decide) rfl rfl ?_
            refine z_goto (n := 4) hC dX0_shootRound_88 (by decide) ?_
            refine z_lv [2, 3, 1, 0] (lv' := [(0, .ref (a 0)), (1, .int am), (2, .int (nI 1)), (3, .int (nI (i + 1)))]) rfl ?_
            refine z_leq (lv' := [(0, .ref (a 0)), (1, .int am), (2, .int (bN (anB (htB sw st fa lf am) (i + 1)))), (3, .int (nI (i + 1)))]) (by simp [anB, bN, c1, c6, c15, c16, c18]) ?_
            exact ih (i + 1) (by omega) (by omega)
      · refine z_iconst (v := nI 1) (n := 42) hC dX0_shootRound_41 (by decide) rfl ?_
        refine z_goto (n := 46) hC dX0_shootRound_42 (by decide) ?_
        refine z_zast (ws' := wS a cI cZ sw st (pwF fa (upA fa lf) i) sc fi mi lf (pwF hi (htB sw st fa lf am) (i + 1)) n) (n := 47) hC 8 1 i rfl rfl rfl (by omega) (by decide) (nar_b (b := true)) dX0_shootRound_46 (bI_pw (b := true) (by simp [htB, c1, c6, c15])) rfl rfl ?_
        refine z_iload_n (n := 48) hC dX0_shootRound_47 rfl 2 rfl rfl ?_
        refine z_if_ne_b (tgt := 60) (n := 51) hC (anB (htB sw st fa lf am) i) rfl dX0_shootRound_48 (by decide) rfl (fun c21 => ?_) (fun c21 => ?_)
        · refine z_iconst (v := nI 1) (n := 61) hC dX0_shootRound_60 (by decide) rfl ?_
          refine z_goto (n := 65) hC dX0_shootRound_61 (by decide) ?_
          refine z_istore_n (lv' := [(2, .int (nI 1)), (0, .ref (a 0)), (1, .int am), (3, .int (nI i))]) (n := 66) hC dX0_shootRound_65 rfl (by decide) rfl rfl ?_
          refine z_aload_n (n := 67) hC dX0_shootRound_66 rfl 1 rfl rfl ?_
          refine gf_X0_30 (v := .ref (a 7)) (n := 70) hC 0 rfl rfl dX0_shootRound_67 rfl ?_
          refine z_iload_n (n := 71) hC dX0_shootRound_70 rfl 3 rfl rfl ?_
          refine z_zald (v := bN (lf i)) (n := 72) hC 7 1 i rfl rfl rfl (by omega) (by decide) dX0_shootRound_71 rfl rfl ?_
          refine z_if_eq_b (tgt := 85) (n := 75) hC (lf i) rfl dX0_shootRound_72 (by decide) rfl (fun c22 => absurd (c6.symm.trans c22) (by decide)) (fun c22 => ?_)
          refine z_aload_n (n := 76) hC dX0_shootRound_75 rfl 1 rfl rfl ?_
          refine gf_X0_18 (v := .ref (a 3)) (n := 79) hC 0 rfl rfl dX0_shootRound_76 rfl ?_
          refine z_iload_n (n := 80) hC dX0_shootRound_79 rfl 3 rfl rfl ?_
          refine z_dup2 (n := 81) hC dX0_shootRound_80 rfl rfl rfl ?_
          refine z_iald (v := fa i) (n := 82) hC 3 0 i rfl rfl rfl (by omega) (by decide) dX0_shootRound_81 (pwF_at (Nat.le_refl _)) rfl ?_
          refine z_iconst (v := nI 1) (n := 83) hC dX0_shootRound_82 (by decide) rfl ?_
          refine z_iadd (v := (fa i) + (nI 1)) (n := 84) hC dX0_shootRound_83 rfl rfl ?_
          refine z_iast (ws' := wS a cI cZ sw st (pwF fa (upA fa lf) (i + 1)) sc fi mi lf (pwF hi (htB sw st fa lf am) (i + 1)) n) (n := 85) hC 3 0 i rfl rfl rfl (by omega) (by decide) dX0_shootRound_84 (pwF_e (by simp [upA, c1, c6, c15, c21])) rfl rfl ?_
          refine z_iinc (k0 := 3) (v := nI (i + 1)) (lv' := [(3, .int (nI (i + 1))), (2, .int (nI 1)), (0, .ref (a 0)), (1, .int am)]) (n := 88) hC dX0_shootRound_85 rfl (nI_add i 1) (by decide) rfl rfl ?_
          refine z_goto (n := 4) hC dX0_shootRound_88 (by decide) ?_
          refine z_lv [2, 3, 1, 0] (lv' := [(0, .ref (a 0)), (1, .int am), (2, .int (nI 1)), (3, .int (nI (i + 1)))]) rfl ?_
          refine z_leq (lv' := [(0, .ref (a 0)), (1, .int am), (2, .int (bN (anB (htB sw st fa lf am) (i + 1)))), (3, .int (nI (i + 1)))]) (by simp [anB, bN, c1, c6, c15, c21]) ?_
          exact ih (i + 1) (by omega) (by omega)
        · refine z_aload_n (n := 52) hC dX0_shootRound_51 rfl 0 rfl rfl ?_
          refine gf_X0_34 (v := .ref (a 8)) (n := 55) hC 0 rfl rfl dX0_shootRound_52 rfl ?_
          refine z_iload_n (n := 56) hC dX0_shootRound_55 rfl 3 rfl rfl ?_
          refine z_zald (v := bN ((htB sw st fa lf am) i)) (n := 57) hC 8 1 i rfl rfl rfl (by omega) (by decide) dX0_shootRound_56 (congrArg bN (pwF_lt (Nat.lt_succ_self _))) rfl ?_
          refine z_if_eq_b (tgt := 64) (n := 60) hC ((htB sw st fa lf am) i) rfl dX0_shootRound_57 (by decide) rfl (fun c23 => ?_) (fun c23 => ?_)
          · refine z_iconst (v := nI 0) (n := 65) hC dX0_shootRound_64 (by decide) rfl ?_
            refine z_istore_n (lv' := [(2, .int (nI 0)), (0, .ref (a 0)), (1, .int am), (3, .int (nI i))]) (n := 66) hC dX0_shootRound_65 rfl (by decide) rfl rfl ?_
            refine z_aload_n (n := 67) hC dX0_shootRound_66 rfl 1 rfl rfl ?_
            refine gf_X0_30 (v := .ref (a 7)) (n := 70) hC 0 rfl rfl dX0_shootRound_67 rfl ?_
            refine z_iload_n (n := 71) hC dX0_shootRound_70 rfl 3 rfl rfl ?_
            refine z_zald (v := bN (lf i)) (n := 72) hC 7 1 i rfl rfl rfl (by omega) (by decide) dX0_shootRound_71 rfl rfl ?_
            refine z_if_eq_b (tgt := 85) (n := 75) hC (lf i) rfl dX0_shootRound_72 (by decide) rfl (fun c24 => absurd (c6.symm.trans c24) (by decide)) (fun c24 => ?_)
            refine z_aload_n (n := 76) hC dX0_shootRound_75 rfl 1 rfl rfl ?_
            refine gf_X0_18 (v := .ref (a 3)) (n := 79) hC 0 rfl rfl dX0_shootRound_76 rfl ?_
            refine z_iload_n (n := 80) hC dX0_shootRound_79 rfl 3 rfl rfl ?_
            refine z_dup2 (n := 81) hC dX0_shootRound_80 rfl rfl rfl ?_
            refine z_iald (v := fa i) (n := 82) hC 3 0 i rfl rfl rfl (by omega) (by decide) dX0_shootRound_81 (pwF_at (Nat.le_refl _)) rfl ?_
            refine z_iconst (v := nI 1) (n := 83) hC dX0_shootRound_82 (by decide) rfl ?_
            refine z_iadd (v := (fa i) + (nI 1)) (n := 84) hC dX0_shootRound_83 rfl rfl ?_
            refine z_iast (ws' := wS a cI cZ sw st (pwF fa (upA fa lf) (i + 1)) sc fi mi lf (pwF hi (htB sw st fa lf am) (i + 1)) n) (n := 85) hC 3 0 i rfl rfl rfl (by omega) (by decide) dX0_shootRound_84 (pwF_e (by simp [upA, c1, c6, c15, c21, c23])) rfl rfl ?_
            refine z_iinc (k0 := 3) (v := nI (i + 1)) (lv' := [(3, .int (nI (i + 1))), (2, .int (nI 0)), (0, .ref (a 0)), (1, .int am)]) (n := 88) hC dX0_shootRound_85 rfl (nI_add i 1) (by decide) rfl rfl ?_
            refine z_goto (n := 4) hC dX0_shootRound_88 (by decide) ?_
            refine z_lv [2, 3, 1, 0] (lv' := [(0, .ref (a 0)), (1, .int am), (2, .int (nI 0)), (3, .int (nI (i + 1)))]) rfl ?_
            refine z_leq (lv' := [(0, .ref (a 0)), (1, .int am), (2, .int (bN (anB (htB sw st fa lf am) (i + 1)))), (3, .int (nI (i + 1)))]) (by simp [anB, bN, c1, c6, c15, c21, c23]) ?_
            exact ih (i + 1) (by omega) (by omega)
          · refine z_iconst (v := nI 1) (n := 61) hC dX0_shootRound_60 (by decide) rfl ?_
            refine z_goto (n := 65) hC dX0_shootRound_61 (by decide) ?_
            refine z_istore_n (lv' := [(2, .int (nI 1)), (0, .ref (a 0)), (1, .int am), (3, .int (nI i))]) (n := 66) hC dX0_shootRound_65 rfl (by decide) rfl rfl ?_
            refine z_aload_n (n := 67) hC dX0_shootRound_66 rfl 1 rfl rfl ?_
            refine gf_X0_30 (v := .ref (a 7)) (n := 70) hC 0 rfl rfl dX0_shootRound_67 rfl ?_
            refine z_iload_n (n := 71) hC dX0_shootRound_70 rfl 3 rfl rfl ?_
            refine z_zald (v := bN (lf i)) (n := 72) hC 7 1 i rfl rfl rfl (by omega) (by decide) dX0_shootRound_71 rfl rfl ?_
            refine z_if_eq_b (tgt := 85) (n := 75) hC (lf i) rfl dX0_shootRound_72 (by decide) rfl (fun c25 => absurd (c6.symm.trans c25) (by decide)) (fun c25 => ?_)
            refine z_aload_n (n := 76) hC dX0_shootRound_75 rfl 1 rfl rfl ?_
            refine gf_X0_18 (v := .ref (a 3)) (n := 79) hC 0 rfl rfl dX0_shootRound_76 rfl ?_
            refine z_iload_n (n := 80) hC dX0_shootRound_79 rfl 3 rfl rfl ?_
            refine z_dup2 (n := 81) hC dX0_shootRound_80 rfl rfl rfl ?_
            refine z_iald (v := fa i) (n := 82) hC 3 0 i rfl rfl rfl (by omega) (by decide) dX0_shootRound_81 (pwF_at (Nat.le_refl _)) rfl ?_
            refine z_iconst (v := nI 1) (n := 83) hC dX0_shootRound_82 (by decide) rfl ?_
            refine z_iadd (v := (fa i) + (nI 1)) (n := 84) hC dX0_shootRound_83 rfl rfl ?_
            refine z_iast (ws' := wS a cI cZ sw st (pwF fa (upA fa lf) (i + 1)) sc fi mi lf (pwF hi (htB sw st fa lf am) (i + 1)) n) (n := 85) hC 3 0 i rfl rfl rfl (by omega) (by decide) dX0_shootRound_84 (pwF_e (by simp [upA, c1, c6, c15, c21, c23])) rfl rfl ?_
            refine z_iinc (k0 := 3) (v := nI (i + 1)) (lv' := [(3, .int (nI (i + 1))), (2, .int (nI 1)), (0, .ref (a 0)), (1, .int am)]) (n := 88) hC dX0_shootRound_85 rfl (nI_add i 1) (by decide) rfl rfl ?_
            refine z_goto (n := 4) hC dX0_shootRound_88 (by decide) ?_
            refine z_lv [2, 3, 1, 0] (lv' := [(0, .ref (a 0)), (1, .int am), (2, .int (nI 1)), (3, .int (nI (i + 1)))]) rfl ?_
            refine z_leq (lv' := [(0, .ref (a 0)), (1, .int am), (2, .int (bN (anB (htB sw st fa lf am) (i + 1)))), (3, .int (nI (i + 1)))]) (by simp [anB, bN, c1, c6, c15, c21, c23]) ?_
            exact ih (i + 1) (by omega) (by omega)

set_option maxRecDepth 100000 in
set_option maxHeartbeats 4000000 in
/-- a shoot-off, with guns -/
theorem k_X0_settleTie (l : Launch) (G : va_G) (cI cZ cJ : ClassId) (a : Nat → Nat) (sw : Nat → Int32) (st : Nat → Int32) (fa : Nat → Int32) (sc : Nat → Int32) (fi : Nat → Int32) (mi : Nat → Int32) (lf : Nat → Bool) (hi : Nat → Bool) (n : Nat) (hn : n ≤ 6) (hn0 : 0 < n) : MI ((Nat → Bool) × (Nat → Bool)) l yX0_settleTie cX0_settleTie 3 2 46 G (tY cI cZ cJ) [.ref (a 0)] (wS a cI cZ sw st fa sc fi mi lf hi n) (fun zr _ => zr = nI (wnF sw st sc fa n)) (fun zu => wS a cI cZ sw st (waF sw st sc fa n) (upd sc (wnF sw st sc fa n) (sc (wnF sw st sc fa n) + nI 1)) fi mi zu.1 zu.2 n) 0 0 := by
  refine MI_of (by decide) (Nat.le_of_ble_eq_true rfl) [(0, .ref (a 0))] rfl ?_
  intro p e s m below meth c hC hr hlocks hname
  have hC : Cx p s m _ c cX0_settleTie 3 RX0 G (tY cI cZ cJ) _ := hC
  refine z_aload_n (n := 1) hC dX0_settleTie_0 rfl 0 rfl rfl ?_
  refine z_calli (R := { frames := 2, cells := 0, slots := 0, locals := 46 }) (cells := 0) (slots := 0) (ws := wS a cI cZ sw st fa sc fi mi lf hi n) (n := 4) (As := []) (rest := []) hC (k_X0_leading l G cI cZ cJ a sw st fa sc fi mi lf hi n (by omega)) kg_X0_70 kd_yX0_leading dX0_settleTie_1 ⟨Nat.le_of_ble_eq_true rfl, Nat.le_of_ble_eq_true rfl⟩ 0 rfl rfl rfl [0, 1, 2, 3, 4, 5, 6, 7, 8] rfl (by decide) rfl (Nat.le_of_ble_eq_true rfl) ⟨Nat.le_of_ble_eq_true rfl, Nat.le_of_ble_eq_true rfl⟩ (ws2 := fun u1 => wS a cI cZ sw st fa sc fi mi lf hi n) [] (fun _ => rfl) ([]) (fun _ => rfl) rfl (fun _ => rfl) [a 0, a 1, a 2, a 3, a 4, a 5, a 6, a 7, a 8] (fun _ => rfl) rfl rfl rfl (fun r2 u1 h3 => ?_)
  subst h3
  refine z_top (y := nI (leF sc (n - 1))) (ldF_pos hn0) ?_
  have hle := leF_le sc (n - 1)
  refine z_istore_n (lv' := [(1, .int (nI (leF sc (n - 1)))), (0, .ref (a 0))]) (n := 5) hC dX0_settleTie_4 rfl (by decide) rfl rfl ?_
  refine z_iload_n (n := 6) hC dX0_settleTie_5 rfl 0 rfl rfl ?_
  refine z_iconst (v := (-1)) (n := 7) hC dX0_settleTie_6 (by decide) rfl ?_
  refine z_icmp_ne (tgt := 12) (n := 10) hC dX0_settleTie_7 (by decide) rfl (fun c4 => ?_) (fun c4 => absurd c4 (nI_m1 (by omega)))
  refine z_iconst (v := nI 0) (n := 13) hC dX0_settleTie_12 (by decide) rfl ?_
  refine z_istore_n (lv' := [(2, .int (nI 0)), (1, .int (nI (leF sc (n - 1)))), (0, .ref (a 0))]) (n := 14) hC dX0_settleTie_13 rfl (by decide) rfl rfl ?_
  refine z_lv [2, 1, 0] (lv' := [(0, .ref (a 0)), (1, .int (nI (leF sc (n - 1)))), (2, .int (nI 0))]) rfl ?_
  refine z_weq (ws' := wS a cI cZ sw st fa sc fi mi (pwF lf (beB sc n) 0) hi n) (by simp only [pwF_0]) ?_
  refine z_loop n 0 (fun i => wS a cI cZ sw st fa sc fi mi (pwF lf (beB sc n) i) hi n) (fun i => [(0, .ref (a 0)), (1, .int (nI (leF sc (n - 1)))), (2, .int (nI i))]) (by omega) rfl rfl (fun i hi0 hi1 ih => ?_)
  refine z_iload_n (n := 15) hC dX0_settleTie_14 rfl 2 rfl rfl ?_
  refine z_aload_n (n := 16) hC dX0_settleTie_15 rfl 0 rfl rfl ?_
  refine gf_X0_37 (v := .int (nI n)) (n := 19) hC 0 rfl rfl dX0_settleTie_16 rfl ?_
  refine z_icmp_ge_n (tgt := 54) (n := 22) hC i n rfl rfl (by omega) (by omega) dX0_settleTie_19 (by decide) rfl (fun c5 => ?_) (fun c5 => ?_)
  · obtain rfl : n = i := by omega
    refine z_iconst (v := nI 1) (n := 55) hC dX0_settleTie_54 (by decide) rfl ?_
    refine z_istore_n (lv' := [(2, .int (nI 1)), (0, .ref (a 0)), (1, .int (nI (leF sc (n - 1))))]) (n := 56) hC dX0_settleTie_55 rfl (by decide) rfl rfl ?_
    refine z_lv [1, 0] (lv' := [(0, .ref (a 0)), (2, .int (nI 1))]) rfl ?_
    refine z_loopS (σ := (Nat → Bool) × (Nat → Int32) × (Nat → Bool)) 10 1 (fun i u => soF sw st n (10 - i) i u.1 u.2.1 = soF sw st n 9 1 (pwF lf (beB sc n) n) fa) (fun i u => wS a cI cZ sw st u.2.1 sc fi mi u.1 u.2.2 n) (fun i u => [(0, .ref (a 0)), (2, .int (nI i))]) (fun _ => 0) (fun _ => 0) (pwF lf (beB sc n) n, fa, hi) (by omega) (rfl) rfl rfl (Nat.le_refl _) (Nat.le_refl _) (fun i u hi0 hi1 hu ih => ?_)
    have hcl := ctF_le u.1 n
    refine z_iload_n (n := 57) hC dX0_settleTie_56 rfl 1 rfl rfl ?_
    refine z_bipush (v := nI 9) (n := 59) hC dX0_settleTie_57 (by decide) rfl ?_
    refine z_icmp_gt_n (tgt := 84) (n := 62) hC i 9 rfl rfl (by omega) (by omega) dX0_settleTie_59 (by decide) rfl (fun c6 => ?_) (fun c6 => ?_)
    · obtain rfl : 10 = i := by omega
      have hres : soF sw st n 9 1 (pwF lf (beB sc n) n) fa = (u.1, u.2.1) := hu.symm
      refine z_aload_n (n := 85) hC dX0_settleTie_84 rfl 0 rfl rfl ?_
      refine z_calli (R := { frames := 2, cells := 0, slots := 0, locals := 46 }) (cells := 0) (slots := 0) (ws := wS a cI cZ sw st u.2.1 sc fi mi u.1 u.2.2 n) (n := 88) (As := []) (rest := []) hC (k_X0_firstLeft l G cI cZ cJ a sw st u.2.1 sc fi mi u.1 u.2.2 n (by omega)) kg_X0_81 kd_yX0_firstLeft dX0_settleTie_85 ⟨Nat.le_of_ble_eq_true rfl, Nat.le_of_ble_eq_true rfl⟩ 0 rfl rfl rfl [0, 1, 2, 3, 4, 5, 6, 7, 8] rfl (by decide) rfl (Nat.le_of_ble_eq_true rfl) ⟨Nat.le_of_ble_eq_true rfl, Nat.le_of_ble_eq_true rfl⟩ (ws2 := fun u7 => wS a cI cZ sw st u.2.1 sc fi mi u.1 u.2.2 n) [] (fun _ => rfl) ([]) (fun _ => rfl) rfl (fun _ => rfl) [a 0, a 1, a 2, a 3, a 4, a 5, a 6, a 7, a 8] (fun _ => rfl) rfl rfl rfl (fun r8 u7 h9 => ?_)
      subst h9
      obtain ⟨e1, e2⟩ := so_end hn0 hres
      refine z_top (y := nI (wnF sw st sc fa n)) e1 ?_
      have hw := wnF_lt (sw := sw) (st := st) (sc := sc) (fa := fa) hn0
      refine z_weq (ws' := wS a cI cZ sw st (waF sw st sc fa n) sc fi mi u.1 u.2.2 n) (by rw [e2]) ?_
      refine z_istore_n (lv' := [(2, .int (nI (wnF sw st sc fa n))), (0, .ref (a 0))]) (n := 89) hC dX0_settleTie_88 rfl (by decide) rfl rfl ?_
      refine z_iload_n (n := 90) hC dX0_settleTie_89 rfl 0 rfl rfl ?_
      refine z_iconst (v := (-1)) (n := 91) hC dX0_settleTie_90 (by decide) rfl ?_
      refine z_icmp_eq (tgt := 104) (n := 94) hC dX0_settleTie_91 (by decide) rfl (fun c10 => absurd c10 (nI_m1 (by omega))) (fun c10 => ?_)
      refine z_aload_n (n := 95) hC dX0_settleTie_94 rfl 1 rfl rfl ?_
      refine gf_X0_21 (v := .ref (a 4)) (n := 98) hC 0 rfl rfl dX0_settleTie_95 rfl ?_
      refine z_iload_n (n := 99) hC dX0_settleTie_98 rfl 0 rfl rfl ?_
      refine z_dup2 (n := 100) hC dX0_settleTie_99 rfl rfl rfl ?_
      refine z_iald (v := sc (wnF sw st sc fa n)) (n := 101) hC 4 0 (wnF sw st sc fa n) rfl rfl rfl (by omega) (by decide) dX0_settleTie_100 rfl rfl ?_
      refine z_iconst (v := nI 1) (n := 102) hC dX0_settleTie_101 (by decide) rfl ?_
      refine z_iadd (v := (sc (wnF sw st sc fa n)) + (nI 1)) (n := 103) hC dX0_settleTie_102 rfl rfl ?_
      refine z_iast (ws' := wS a cI cZ sw st (waF sw st sc fa n) (upd sc (wnF sw st sc fa n) ((sc (wnF sw st sc fa n)) + (nI 1))) fi mi u.1 u.2.2 n) (n := 104) hC 4 0 (wnF sw st sc fa n) rfl rfl rfl (by omega) (by decide) dX0_settleTie_103 rfl rfl rfl ?_
      refine z_iload_n (n := 105) hC dX0_settleTie_104 rfl 0 rfl rfl ?_
      refine z_iret hC hr hlocks (u.1, u.2.2) ?_ rfl dX0_settleTie_105 (by omega) (by omega)
      rfl
    · refine z_aload_n (n := 63) hC dX0_settleTie_62 rfl 0 rfl rfl ?_
      refine z_calli (R := { frames := 2, cells := 0, slots := 0, locals := 46 }) (cells := 0) (slots := 0) (ws := wS a cI cZ sw st u.2.1 sc fi mi u.1 u.2.2 n) (n := 66) (As := []) (rest := []) hC (k_X0_countLeft l G cI cZ cJ a sw st u.2.1 sc fi mi u.1 u.2.2 n (by omega)) kg_X0_74 kd_yX0_countLeft dX0_settleTie_63 ⟨Nat.le_of_ble_eq_true rfl, Nat.le_of_ble_eq_true rfl⟩ 0 rfl rfl rfl [0, 1, 2, 3, 4, 5, 6, 7, 8] rfl (by decide) rfl (Nat.le_of_ble_eq_true rfl) ⟨Nat.le_of_ble_eq_true rfl, Nat.le_of_ble_eq_true rfl⟩ (ws2 := fun u11 => wS a cI cZ sw st u.2.1 sc fi mi u.1 u.2.2 n) [] (fun _ => rfl) ([]) (fun _ => rfl) rfl (fun _ => rfl) [a 0, a 1, a 2, a 3, a 4, a 5, a 6, a 7, a 8] (fun _ => rfl) rfl rfl rfl (fun r12 u11 h13 => ?_)
      subst h13
      refine z_iconst (v := nI 1) (n := 67) hC dX0_settleTie_66 (by decide) rfl ?_
      refine z_icmp_le_n (tgt := 84) (n := 70) hC (ctF u.1 n) 1 rfl rfl (by omega) (by omega) dX0_settleTie_67 (by decide) rfl (fun c14 => ?_) (fun c14 => ?_)
      · have hres := so_stop (by omega) hu c14
        refine z_aload_n (n := 85) hC dX0_settleTie_84 rfl 0 rfl rfl ?_
        refine z_calli (R := { frames := 2, cells := 0, slots := 0, locals := 46 }) (cells := 0) (slots := 0) (ws := wS a cI cZ sw st u.2.1 sc fi mi u.1 u.2.2 n) (n := 88) (As := []) (rest := []) hC (k_X0_firstLeft l G cI cZ cJ a sw st u.2.1 sc fi mi u.1 u.2.2 n (by omega)) kg_X0_81 kd_yX0_firstLeft dX0_settleTie_85 ⟨Nat.le_of_ble_eq_true rfl, Nat.le_of_ble_eq_true rfl⟩ 0 rfl rfl rfl [0, 1, 2, 3, 4, 5, 6, 7, 8] rfl (by decide) rfl (Nat.le_of_ble_eq_true rfl) ⟨Nat.le_of_ble_eq_true rfl, Nat.le_of_ble_eq_true rfl⟩ (ws2 := fun u15 => wS a cI cZ sw st u.2.1 sc fi mi u.1 u.2.2 n) [] (fun _ => rfl) ([]) (fun _ => rfl) rfl (fun _ => rfl) [a 0, a 1, a 2, a 3, a 4, a 5, a 6, a 7, a 8] (fun _ => rfl) rfl rfl rfl (fun r16 u15 h17 => ?_)
        subst h17
        obtain ⟨e1, e2⟩ := so_end hn0 hres
        refine z_top (y := nI (wnF sw st sc fa n)) e1 ?_
        have hw := wnF_lt (sw := sw) (st := st) (sc := sc) (fa := fa) hn0
        refine z_weq (ws' := wS a cI cZ sw st (waF sw st sc fa n) sc fi mi u.1 u.2.2 n) (by rw [e2]) ?_
        refine z_istore_n (lv' := [(2, .int (nI (wnF sw st sc fa n))), (0, .ref (a 0))]) (n := 89) hC dX0_settleTie_88 rfl (by decide) rfl rfl ?_
        refine z_iload_n (n := 90) hC dX0_settleTie_89 rfl 0 rfl rfl ?_
        refine z_iconst (v := (-1)) (n := 91) hC dX0_settleTie_90 (by decide) rfl ?_
        refine z_icmp_eq (tgt := 104) (n := 94) hC dX0_settleTie_91 (by decide) rfl (fun c18 => absurd c18 (nI_m1 (by omega))) (fun c18 => ?_)
        refine z_aload_n (n := 95) hC dX0_settleTie_94 rfl 1 rfl rfl ?_
        refine gf_X0_21 (v := .ref (a 4)) (n := 98) hC 0 rfl rfl dX0_settleTie_95 rfl ?_
        refine z_iload_n (n := 99) hC dX0_settleTie_98 rfl 0 rfl rfl ?_
        refine z_dup2 (n := 100) hC dX0_settleTie_99 rfl rfl rfl ?_
        refine z_iald (v := sc (wnF sw st sc fa n)) (n := 101) hC 4 0 (wnF sw st sc fa n) rfl rfl rfl (by omega) (by decide) dX0_settleTie_100 rfl rfl ?_
        refine z_iconst (v := nI 1) (n := 102) hC dX0_settleTie_101 (by decide) rfl ?_
        refine z_iadd (v := (sc (wnF sw st sc fa n)) + (nI 1)) (n := 103) hC dX0_settleTie_102 rfl rfl ?_
        refine z_iast (ws' := wS a cI cZ sw st (waF sw st sc fa n) (upd sc (wnF sw st sc fa n) ((sc (wnF sw st sc fa n)) + (nI 1))) fi mi u.1 u.2.2 n) (n := 104) hC 4 0 (wnF sw st sc fa n) rfl rfl rfl (by omega) (by decide) dX0_settleTie_103 rfl rfl rfl ?_
        refine z_iload_n (n := 105) hC dX0_settleTie_104 rfl 0 rfl rfl ?_
        refine z_iret hC hr hlocks (u.1, u.2.2) ?_ rfl dX0_settleTie_105 (by omega) (by omega)
        rfl
      · refine z_aload_n (n := 71) hC dX0_settleTie_70 rfl 0 rfl rfl ?_
        refine z_bipush (v := nI 6) (n := 73) hC dX0_settleTie_71 (by decide) rfl ?_
        refine z_iload_n (n := 74) hC dX0_settleTie_73 rfl 1 rfl rfl ?_
        refine z_imul (v := nI (6 * i)) (n := 75) hC dX0_settleTie_74 (pk_mul 6 i) rfl ?_
        refine z_callv (R := { frames := 2, cells := 0, slots := 0, locals := 46 }) (cells := 0) (slots := 0) (ws := wS a cI cZ sw st u.2.1 sc fi mi u.1 u.2.2 n) (n := 78) (As := [.int (nI (6 * i))]) (rest := []) hC (k_X0_shootRound l G cI cZ cJ a sw st u.2.1 sc fi mi u.1 u.2.2 n (nI (6 * i)) (by omega)) kg_X0_77 kd_yX0_shootRound dX0_settleTie_75 ⟨Nat.le_of_ble_eq_true rfl, Nat.le_of_ble_eq_true rfl⟩ 0 rfl rfl rfl [0, 1, 2, 3, 4, 5, 6, 7, 8] rfl (by decide) rfl (Nat.le_of_ble_eq_true rfl) ⟨Nat.le_of_ble_eq_true rfl, Nat.le_of_ble_eq_true rfl⟩ (ws2 := fun u19 => wS a cI cZ sw st (pwF u.2.1 (upA u.2.1 u.1) n) sc fi mi (soL sw st u.2.1 u.1 n (nI (6 * i))) (pwF u.2.2 (htB sw st u.2.1 u.1 (nI (6 * i))) n) n) [] (fun _ => rfl) ([]) (fun _ => rfl) rfl (fun _ => rfl) [a 0, a 1, a 2, a 3, a 4, a 5, a 6, a 7, a 8] (fun _ => rfl) rfl rfl rfl (fun u19 h21 => ?_)
        refine z_iinc (k0 := 1) (v := nI (i + 1)) (lv' := [(2, .int (nI (i + 1))), (0, .ref (a 0))]) (n := 81) hC dX0_settleTie_78 rfl (nI_add i 1) (by decide) rfl rfl ?_
        refine z_goto (n := 56) hC dX0_settleTie_81 (by decide) ?_
        refine z_lv [1, 0] (lv' := [(0, .ref (a 0)), (2, .int (nI (i + 1)))]) rfl ?_
        refine z_weq (ws' := wS a cI cZ sw st ((soL sw st u.2.1 u.1 n (nI (6 * i)), pwF u.2.1 (upA u.2.1 u.1) n, pwF u.2.2 (htB sw st u.2.1 u.1 (nI (6 * i))) n).2.1) sc fi mi ((soL sw st u.2.1 u.1 n (nI (6 * i)), pwF u.2.1 (upA u.2.1 u.1) n, pwF u.2.2 (htB sw st u.2.1 u.1 (nI (6 * i))) n).1) ((soL sw st u.2.1 u.1 n (nI (6 * i)), pwF u.2.1 (upA u.2.1 u.1) n, pwF u.2.2 (htB sw st u.2.1 u.1 (nI (6 * i))) n).2.2) n) (rfl) ?_
        exact ih (i + 1) (soL sw st u.2.1 u.1 n (nI (6 * i)), pwF u.2.1 (upA u.2.1 u.1) n, pwF u.2.2 (htB sw st u.2.1 u.1 (nI (6 * i))) n) (by omega) (by omega) (so_go (by omega) hu (by omega))
  · refine z_aload_n (n := 23) hC dX0_settleTie_22 rfl 0 rfl rfl ?_
    refine gf_X0_30 (v := .ref (a 7)) (n := 26) hC 0 rfl rfl dX0_settleTie_23 rfl ?_
    refine z_iload_n (n := 27) hC dX0_settleTie_26 rfl 2 rfl rfl ?_
    refine z_aload_n (n := 28) hC dX0_settleTie_27 rfl 0 rfl rfl ?_
    refine gf_X0_21 (v := .ref (a 4)) (n := 31) hC 0 rfl rfl dX0_settleTie_28 rfl ?_
    refine z_iload_n (n := 32) hC dX0_settleTie_31 rfl 2 rfl rfl ?_
    refine z_iald (v := sc i) (n := 33) hC 4 0 i rfl rfl rfl (by omega) (by decide) dX0_settleTie_32 rfl rfl ?_
    refine z_aload_n (n := 34) hC dX0_settleTie_33 rfl 0 rfl rfl ?_
    refine gf_X0_21 (v := .ref (a 4)) (n := 37) hC 0 rfl rfl dX0_settleTie_34 rfl ?_
    refine z_iload_n (n := 38) hC dX0_settleTie_37 rfl 1 rfl rfl ?_
    refine z_iald (v := sc (leF sc (n - 1))) (n := 39) hC 4 0 (leF sc (n - 1)) rfl rfl rfl (by omega) (by decide) dX0_settleTie_38 rfl rfl ?_
    refine z_icmp_ne (tgt := 46) (n := 42) hC dX0_settleTie_39 (by decide) rfl (fun c22 => ?_) (fun c22 => ?_)
    · refine z_iconst (v := nI 0) (n := 47) hC dX0_settleTie_46 (by decide) rfl ?_
      refine z_zast (ws' := wS a cI cZ sw st fa sc fi mi (pwF lf (beB sc n) (i + 1)) hi n) (n := 48) hC 7 1 i rfl rfl rfl (by omega) (by decide) (nar_b (b := false)) dX0_settleTie_47 (bI_pw (b := false) (by simp [beB, c5, c22])) rfl rfl ?_
      refine z_iinc (k0 := 2) (v := nI (i + 1)) (lv' := [(2, .int (nI (i + 1))), (0, .ref (a 0)), (1, .int (nI (leF sc (n - 1))))]) (n := 51) hC dX0_settleTie_48 rfl (nI_add i 1) (by decide) rfl rfl ?_
      refine z_goto (n := 14) hC dX0_settleTie_51 (by decide) ?_
      refine z_lv [1, 2, 0] (lv' := [(0, .ref (a 0)), (1, .int (nI (leF sc (n - 1)))), (2, .int (nI (i + 1)))]) rfl ?_
      exact ih (i + 1) (by omega) (by omega)
    · refine z_iconst (v := nI 1) (n := 43) hC dX0_settleTie_42 (by decide) rfl ?_
      refine z_goto (n := 47) hC dX0_settleTie_43 (by decide) ?_
      refine z_zast (ws' := wS a cI cZ sw st fa sc fi mi (pwF lf (beB sc n) (i + 1)) hi n) (n := 48) hC 7 1 i rfl rfl rfl (by omega) (by decide) (nar_b (b := true)) dX0_settleTie_47 (bI_pw (b := true) (by simp [beB, c5, c22])) rfl rfl ?_
      refine z_iinc (k0 := 2) (v := nI (i + 1)) (lv' := [(2, .int (nI (i + 1))), (0, .ref (a 0)), (1, .int (nI (leF sc (n - 1))))]) (n := 51) hC dX0_settleTie_48 rfl (nI_add i 1) (by decide) rfl rfl ?_
      refine z_goto (n := 14) hC dX0_settleTie_51 (by decide) ?_
      refine z_lv [1, 2, 0] (lv' := [(0, .ref (a 0)), (1, .int (nI (leF sc (n - 1)))), (2, .int (nI (i + 1)))]) rfl ?_
      exact ih (i + 1) (by omega) (by omega)

set_option maxRecDepth 100000 in
set_option maxHeartbeats 4000000 in
theorem k_X0_settleTie_0 (l : Launch) (G : va_G) (cI cZ cJ : ClassId) (a : Nat → Nat) (sw : Nat → Int32) (st : Nat → Int32) (fa : Nat → Int32) (sc : Nat → Int32) (fi : Nat → Int32) (mi : Nat → Int32) (lf : Nat → Bool) (hi : Nat → Bool) (n : Nat) (hn : n = 0) : MI (Unit) l yX0_settleTie cX0_settleTie 3 1 22 G (tY cI cZ cJ) [.ref (a 0)] (wS a cI cZ sw st fa sc fi mi lf hi n) (fun zr _ => zr = (-1)) (fun _ => wS a cI cZ sw st fa sc fi mi lf hi n) 0 0 := by
  refine MI_of (by decide) (Nat.le_of_ble_eq_true rfl) [(0, .ref (a 0))] rfl ?_
  intro p e s m below meth c hC hr hlocks hname
  have hC : Cx p s m _ c cX0_settleTie 3 RX0 G (tY cI cZ cJ) _ := hC
  refine z_aload_n (n := 1) hC dX0_settleTie_0 rfl 0 rfl rfl ?_
  refine z_calli (R := { frames := 1, cells := 0, slots := 0, locals := 22 }) (cells := 0) (slots := 0) (ws := wS a cI cZ sw st fa sc fi mi lf hi n) (n := 4) (As := []) (rest := []) hC (k_X0_leading l G cI cZ cJ a sw st fa sc fi mi lf hi n (by omega)) kg_X0_70 kd_yX0_leading dX0_settleTie_1 ⟨Nat.le_of_ble_eq_true rfl, Nat.le_of_ble_eq_true rfl⟩ 0 rfl rfl rfl [0, 1, 2, 3, 4, 5, 6, 7, 8] rfl (by decide) rfl (Nat.le_of_ble_eq_true rfl) ⟨Nat.le_of_ble_eq_true rfl, Nat.le_of_ble_eq_true rfl⟩ (ws2 := fun u1 => wS a cI cZ sw st fa sc fi mi lf hi n) [] (fun _ => rfl) ([]) (fun _ => rfl) rfl (fun _ => rfl) [a 0, a 1, a 2, a 3, a 4, a 5, a 6, a 7, a 8] (fun _ => rfl) rfl rfl rfl (fun r2 u1 h3 => ?_)
  subst h3
  refine z_top (y := (-1)) (ldF_0 hn) ?_
  refine z_istore_n (lv' := [(1, .int (-1)), (0, .ref (a 0))]) (n := 5) hC dX0_settleTie_4 rfl (by decide) rfl rfl ?_
  refine z_iload_n (n := 6) hC dX0_settleTie_5 rfl 0 rfl rfl ?_
  refine z_iconst (v := (-1)) (n := 7) hC dX0_settleTie_6 (by decide) rfl ?_
  refine z_icmp_ne (tgt := 12) (n := 10) hC dX0_settleTie_7 (by decide) rfl (fun c4 => absurd rfl c4) (fun c4 => ?_)
  refine z_iconst (v := (-1)) (n := 11) hC dX0_settleTie_10 (by decide) rfl ?_
  refine z_iret hC hr hlocks () ?_ rfl dX0_settleTie_11 (by omega) (by omega)
  rfl
