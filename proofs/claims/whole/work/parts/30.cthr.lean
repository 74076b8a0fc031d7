set_option maxRecDepth 100000 in
set_option maxHeartbeats 4000000 in
theorem kx_X2_checkStand (l : Launch) (G : va_G) (cI cZ cJ : ClassId) (x : Int32) (hl : l.stackTraces = false) (hb : x < 0 ∨ nI 5 ≤ x) : MX l yX2_checkStand cX2_checkStand 1 6 82 none G (tY cI cZ cJ) [.int x] ([]) "java/lang/IndexOutOfBoundsException" 1 6 := by
  refine MX_of (by decide) (Nat.le_of_ble_eq_true rfl) [(0, .int x)] rfl ?_
  intro p e s m below meth c hC hno hlocks hname
  have hC : Cx p s m _ c cX2_checkStand 1 RX2 G (tY cI cZ cJ) _ := hC
  refine z_iload_n (n := 1) hC dX2_checkStand_0 rfl 0 rfl rfl ?_
  refine z_if_lt (tgt := 9) (n := 4) hC dX2_checkStand_1 (by decide) rfl (fun c1 => ?_) (fun c1 => ?_)
  · exact z_thr_o 211 "stand is not 0 to 4" hC hno hlocks hl (by decide) dX2_checkStand_9 dX2_checkStand_12 dX2_checkStand_13 dX2_checkStand_15 dX2_checkStand_18 (Nat.le_of_ble_eq_true rfl) (Nat.le_of_ble_eq_true rfl) (Nat.le_refl _) (Nat.le_refl _) (Nat.le_refl _) (Nat.le_refl _)
  · refine z_iload_n (n := 5) hC dX2_checkStand_4 rfl 0 rfl rfl ?_
    refine z_iconst (v := nI 5) (n := 6) hC dX2_checkStand_5 (by decide) rfl ?_
    refine z_icmp_lt (tgt := 19) (n := 9) hC dX2_checkStand_6 (by decide) rfl (fun c2 => (absurd hb (not_or.mpr ⟨by assumption, Int32.not_le.mpr c2⟩))) (fun c2 => ?_)
    exact z_thr_o 211 "stand is not 0 to 4" hC hno hlocks hl (by decide) dX2_checkStand_9 dX2_checkStand_12 dX2_checkStand_13 dX2_checkStand_15 dX2_checkStand_18 (Nat.le_of_ble_eq_true rfl) (Nat.le_of_ble_eq_true rfl) (Nat.le_refl _) (Nat.le_refl _) (Nat.le_refl _) (Nat.le_refl _)

set_option maxRecDepth 100000 in
set_option maxHeartbeats 4000000 in
theorem kx_X2_checkTurns (l : Launch) (G : va_G) (cI cZ cJ : ClassId) (x : Int32) (hl : l.stackTraces = false) (hb : x < nI 1 ∨ nI 50 < x) : MX l yX2_checkTurns cX2_checkTurns 1 6 82 none G (tY cI cZ cJ) [.int x] ([]) "java/lang/IllegalArgumentException" 1 6 := by
  refine MX_of (by decide) (Nat.le_of_ble_eq_true rfl) [(0, .int x)] rfl ?_
  intro p e s m below meth c hC hno hlocks hname
  have hC : Cx p s m _ c cX2_checkTurns 1 RX2 G (tY cI cZ cJ) _ := hC
  refine z_iload_n (n := 1) hC dX2_checkTurns_0 rfl 0 rfl rfl ?_
  refine z_iconst (v := nI 1) (n := 2) hC dX2_checkTurns_1 (by decide) rfl ?_
  refine z_icmp_lt (tgt := 11) (n := 5) hC dX2_checkTurns_2 (by decide) rfl (fun c1 => ?_) (fun c1 => ?_)
  · exact z_thr_a 215 "turns is not 1 to 50" hC hno hlocks hl (by decide) dX2_checkTurns_11 dX2_checkTurns_14 dX2_checkTurns_15 dX2_checkTurns_17 dX2_checkTurns_20 (Nat.le_of_ble_eq_true rfl) (Nat.le_of_ble_eq_true rfl) (Nat.le_refl _) (Nat.le_refl _) (Nat.le_refl _) (Nat.le_refl _)
  · refine z_iload_n (n := 6) hC dX2_checkTurns_5 rfl 0 rfl rfl ?_
    refine z_bipush (v := nI 50) (n := 8) hC dX2_checkTurns_6 (by decide) rfl ?_
    refine z_icmp_le (tgt := 21) (n := 11) hC dX2_checkTurns_8 (by decide) rfl (fun c2 => (absurd hb (not_or.mpr ⟨by assumption, Int32.not_lt.mpr c2⟩))) (fun c2 => ?_)
    exact z_thr_a 215 "turns is not 1 to 50" hC hno hlocks hl (by decide) dX2_checkTurns_11 dX2_checkTurns_14 dX2_checkTurns_15 dX2_checkTurns_17 dX2_checkTurns_20 (Nat.le_of_ble_eq_true rfl) (Nat.le_of_ble_eq_true rfl) (Nat.le_refl _) (Nat.le_refl _) (Nat.le_refl _) (Nat.le_refl _)
