set_option maxRecDepth 100000 in
set_option maxHeartbeats 4000000 in
theorem kx_X2_addGun_c (l : Launch) (G : va_G) (cI cZ cJ : ClassId) (h : Nat) (ta : Nat → Nat) (sa : Nat → Nat) (ua : Nat → Nat) (T : Nat) (b : Nat → Int32) (r : Nat → Int32) (sw : Nat → Int32) (st : Nat → Int32) (fa : Nat → Int32) (sc : Nat → Int32) (fi : Nat → Int32) (mi : Nat → Int32) (lf : Nat → Bool) (hi : Nat → Bool) (n : Nat) (sw2 : Nat → Int32) (st2 : Nat → Int32) (fa2 : Nat → Int32) (sc2 : Nat → Int32) (fi2 : Nat → Int32) (mi2 : Nat → Int32) (lf2 : Nat → Bool) (hi2 : Nat → Bool) (n2 : Nat) (x : Int32) (y : Int32) (hl : l.stackTraces = false) (hn : n ≤ 6) (hT : T < 2 ^ 29) (hn6 : n = 6) (hx1 : ¬ x < nI 5) (hx2 : x ≤ nI 60) (hy1 : ¬ y < nI 1) (hy2 : y ≤ nI 9) : MX l yX2_addGun cX2_addGun 3 6 82 (some .int) G (tY cI cZ cJ) [.ref h, .int x, .int y] ((wH h ta sa ua T) ++ (wT ta cI b r) ++ (wS sa cI cZ sw st fa sc fi mi lf hi n) ++ (wS ua cI cZ sw2 st2 fa2 sc2 fi2 mi2 lf2 hi2 n2)) "java/lang/IllegalStateException" 1 6 := by
  refine MX_of (by decide) (Nat.le_of_ble_eq_true rfl) [(0, .ref h), (1, .int x), (2, .int y)] rfl ?_
  intro p e s m below meth c hC hno hlocks hname
  have hC : Cx p s m _ c cX2_addGun 3 RX2 G (tY cI cZ cJ) _ := hC
  refine z_iload_n (n := 1) hC dX2_addGun_0 rfl 1 rfl rfl ?_
  refine z_iconst (v := nI 5) (n := 2) hC dX2_addGun_1 (by decide) rfl ?_
  refine z_icmp_lt (tgt := 11) (n := 5) hC dX2_addGun_2 (by decide) rfl (fun c1 => absurd c1 hx1) (fun c1 => ?_)
  refine z_iload_n (n := 6) hC dX2_addGun_5 rfl 1 rfl rfl ?_
  refine z_bipush (v := nI 60) (n := 8) hC dX2_addGun_6 (by decide) rfl ?_
  refine z_icmp_le (tgt := 21) (n := 11) hC dX2_addGun_8 (by decide) rfl (fun c2 => ?_) (fun c2 => absurd hx2 c2)
  refine z_iload_n (n := 22) hC dX2_addGun_21 rfl 2 rfl rfl ?_
  refine z_iconst (v := nI 1) (n := 23) hC dX2_addGun_22 (by decide) rfl ?_
  refine z_icmp_lt (tgt := 32) (n := 26) hC dX2_addGun_23 (by decide) rfl (fun c3 => absurd c3 hy1) (fun c3 => ?_)
  refine z_iload_n (n := 27) hC dX2_addGun_26 rfl 2 rfl rfl ?_
  refine z_bipush (v := nI 9) (n := 29) hC dX2_addGun_27 (by decide) rfl ?_
  refine z_icmp_le (tgt := 42) (n := 32) hC dX2_addGun_29 (by decide) rfl (fun c4 => ?_) (fun c4 => absurd hy2 c4)
  refine z_aload_n (n := 43) hC dX2_addGun_42 rfl 0 rfl rfl ?_
  refine gf_X2_19 (v := .ref (sa 0)) (n := 46) hC 0 rfl rfl dX2_addGun_43 rfl ?_
  refine gf_X2_35 (v := .int (nI n)) (n := 49) hC 4 rfl rfl dX2_addGun_46 rfl ?_
  refine z_bipush (v := nI 6) (n := 51) hC dX2_addGun_49 (by decide) rfl ?_
  refine z_icmp_lt_n (tgt := 64) (n := 54) hC n 6 rfl rfl (by omega) (by omega) dX2_addGun_51 (by decide) rfl (fun c5 => absurd c5 (by omega)) (fun c5 => ?_)
  exact z_thr_s 41 "there are 6 guns" hC hno hlocks hl (by decide) dX2_addGun_54 dX2_addGun_57 dX2_addGun_58 dX2_addGun_60 dX2_addGun_63 (Nat.le_of_ble_eq_true rfl) (Nat.le_of_ble_eq_true rfl) (Nat.le_refl _) (Nat.le_refl _) (Nat.le_refl _) (Nat.le_refl _)
