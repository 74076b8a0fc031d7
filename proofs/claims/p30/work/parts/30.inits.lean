/-! the constructors -/
set_option maxRecDepth 20000 in
theorem qi0 : Cond.instanceMethod yX0_init ∈ zAW := zq_t (List.mem_append_left _ (List.mem_of_getElem? (l := tables_1_1) (i := 39) rfl))
set_option maxRecDepth 100000 in
set_option maxHeartbeats 4000000 in
theorem k_X0_init (l : Launch) (G : va_G) (cI cZ cJ : ClassId) (a : Nat) : MV (Nat → Nat) l yX0_init cX0_init 1 1 20 G (tY cI cZ cJ) [.ref a] [(a, .inr (0, [.null, .null, .null, .null, .null, .null, .null, .null, .int (nI 0)]))] (fun u => u 0 = a) (fun u => wS u cI cZ z0 z0 z0 z0 z0 z0 lf0 lf0 0) 8 48 := by
  refine MV_of (by decide) (Nat.le_of_ble_eq_true rfl) [(0, .ref a)] rfl ?_
  intro p e s m below meth c hC hr hlocks hname
  have hC : Cx p s m _ c cX0_init 1 RX0 G (tY cI cZ cJ) _ := hC
  refine z_aload_n (n := 1) hC dX0_init_0 rfl 0 rfl rfl ?_
  refine z_objI (n := 4) hC q57 q423 q424 dX0_init_1 (Nat.le_of_ble_eq_true rfl) (Nat.le_of_ble_eq_true rfl) (Nat.le_of_ble_eq_true rfl) rfl ?_
  refine z_aload_n (n := 5) hC dX0_init_4 rfl 0 rfl rfl ?_
  refine z_bipush (v := nI 6) (n := 7) hC dX0_init_5 (by decide) rfl ?_
  refine z_newaI (n := 9) (ws2 := fun q1 => [(a, .inr (0, [.null, .null, .null, .null, .null, .null, .null, .null, .int (nI 0)])), (q1, .inl (cI, 6, .inl z0))]) hC 0 6 rfl q401 rfl (by decide) (Nat.le_of_ble_eq_true rfl) (Nat.le_of_ble_eq_true rfl) dX0_init_7 (fun _ => rfl) rfl (fun q1 => ?_)
  refine z_putF (ws' := [(a, .inr (0, [.ref q1, .null, .null, .null, .null, .null, .null, .null, .int (nI 0)])), (q1, .inl (cI, 6, .inl z0))]) (n := 12) hC 0 inX0 tyX0 tyX0_ok nmX0 rfl (by decide) q22 rfl hname rfl (tyX0_ok 0 (by decide)) 0 rfl rfl rfl (Nat.le_of_ble_eq_true rfl) dX0_init_9 rfl rfl ?_
  refine z_aload_n (n := 13) hC dX0_init_12 rfl 0 rfl rfl ?_
  refine z_bipush (v := nI 6) (n := 15) hC dX0_init_13 (by decide) rfl ?_
  refine z_newaI (n := 17) (ws2 := fun q2 => [(a, .inr (0, [.ref q1, .null, .null, .null, .null, .null, .null, .null, .int (nI 0)])), (q1, .inl (cI, 6, .inl z0)), (q2, .inl (cI, 6, .inl z0))]) hC 0 6 rfl q401 rfl (by decide) (Nat.le_of_ble_eq_true rfl) (Nat.le_of_ble_eq_true rfl) dX0_init_15 (fun _ => rfl) rfl (fun q2 => ?_)
  refine z_putF (ws' := [(a, .inr (0, [.ref q1, .ref q2, .null, .null, .null, .null, .null, .null, .int (nI 0)])), (q1, .inl (cI, 6, .inl z0)), (q2, .inl (cI, 6, .inl z0))]) (n := 20) hC 1 inX0 tyX0 tyX0_ok nmX0 rfl (by decide) q24 rfl hname rfl (tyX0_ok 1 (by decide)) 0 rfl rfl rfl (Nat.le_of_ble_eq_true rfl) dX0_init_17 rfl rfl ?_
  refine z_aload_n (n := 21) hC dX0_init_20 rfl 0 rfl rfl ?_
  refine z_bipush (v := nI 6) (n := 23) hC dX0_init_21 (by decide) rfl ?_
  refine z_newaI (n := 25) (ws2 := fun q3 => [(a, .inr (0, [.ref q1, .ref q2, .null, .null, .null, .null, .null, .null, .int (nI 0)])), (q1, .inl (cI, 6, .inl z0)), (q2, .inl (cI, 6, .inl z0)), (q3, .inl (cI, 6, .inl z0))]) hC 0 6 rfl q401 rfl (by decide) (Nat.le_of_ble_eq_true rfl) (Nat.le_of_ble_eq_true rfl) dX0_init_23 (fun _ => rfl) rfl (fun q3 => ?_)
  refine z_putF (ws' := [(a, .inr (0, [.ref q1, .ref q2, .ref q3, .null, .null, .null, .null, .null, .int (nI 0)])), (q1, .inl (cI, 6, .inl z0)), (q2, .inl (cI, 6, .inl z0)), (q3, .inl (cI, 6, .inl z0))]) (n := 28) hC 2 inX0 tyX0 tyX0_ok nmX0 rfl (by decide) q25 rfl hname rfl (tyX0_ok 2 (by decide)) 0 rfl rfl rfl (Nat.le_of_ble_eq_true rfl) dX0_init_25 rfl rfl ?_
  refine z_aload_n (n := 29) hC dX0_init_28 rfl 0 rfl rfl ?_
  refine z_bipush (v := nI 6) (n := 31) hC dX0_init_29 (by decide) rfl ?_
  refine z_newaI (n := 33) (ws2 := fun q4 => [(a, .inr (0, [.ref q1, .ref q2, .ref q3, .null, .null, .null, .null, .null, .int (nI 0)])), (q1, .inl (cI, 6, .inl z0)), (q2, .inl (cI, 6, .inl z0)), (q3, .inl (cI, 6, .inl z0)), (q4, .inl (cI, 6, .inl z0))]) hC 0 6 rfl q401 rfl (by decide) (Nat.le_of_ble_eq_true rfl) (Nat.le_of_ble_eq_true rfl) dX0_init_31 (fun _ => rfl) rfl (fun q4 => ?_)
  refine z_putF (ws' := [(a, .inr (0, [.ref q1, .ref q2, .ref q3, .ref q4, .null, .null, .null, .null, .int (nI 0)])), (q1, .inl (cI, 6, .inl z0)), (q2, .inl (cI, 6, .inl z0)), (q3, .inl (cI, 6, .inl z0)), (q4, .inl (cI, 6, .inl z0))]) (n := 36) hC 3 inX0 tyX0 tyX0_ok nmX0 rfl (by decide) q27 rfl hname rfl (tyX0_ok 3 (by decide)) 0 rfl rfl rfl (Nat.le_of_ble_eq_true rfl) dX0_init_33 rfl rfl ?_
  refine z_aload_n (n := 37) hC dX0_init_36 rfl 0 rfl rfl ?_
  refine z_bipush (v := nI 6) (n := 39) hC dX0_init_37 (by decide) rfl ?_
  refine z_newaI (n := 41) (ws2 := fun q5 => [(a, .inr (0, [.ref q1, .ref q2, .ref q3, .ref q4, .null, .null, .null, .null, .int (nI 0)])), (q1, .inl (cI, 6, .inl z0)), (q2, .inl (cI, 6, .inl z0)), (q3, .inl (cI, 6, .inl z0)), (q4, .inl (cI, 6, .inl z0)), (q5, .inl (cI, 6, .inl z0))]) hC 0 6 rfl q401 rfl (by decide) (Nat.le_of_ble_eq_true rfl) (Nat.le_of_ble_eq_true rfl) dX0_init_39 (fun _ => rfl) rfl (fun q5 => ?_)
  refine z_putF (ws' := [(a, .inr (0, [.ref q1, .ref q2, .ref q3, .ref q4, .ref q5, .null, .null, .null, .int (nI 0)])), (q1, .inl (cI, 6, .inl z0)), (q2, .inl (cI, 6, .inl z0)), (q3, .inl (cI, 6, .inl z0)), (q4, .inl (cI, 6, .inl z0)), (q5, .inl (cI, 6, .inl z0))]) (n := 44) hC 4 inX0 tyX0 tyX0_ok nmX0 rfl (by decide) q29 rfl hname rfl (tyX0_ok 4 (by decide)) 0 rfl rfl rfl (Nat.le_of_ble_eq_true rfl) dX0_init_41 rfl rfl ?_
  refine z_aload_n (n := 45) hC dX0_init_44 rfl 0 rfl rfl ?_
  refine z_bipush (v := nI 6) (n := 47) hC dX0_init_45 (by decide) rfl ?_
  refine z_newaI (n := 49) (ws2 := fun q6 => [(a, .inr (0, [.ref q1, .ref q2, .ref q3, .ref q4, .ref q5, .null, .null, .null, .int (nI 0)])), (q1, .inl (cI, 6, .inl z0)), (q2, .inl (cI, 6, .inl z0)), (q3, .inl (cI, 6, .inl z0)), (q4, .inl (cI, 6, .inl z0)), (q5, .inl (cI, 6, .inl z0)), (q6, .inl (cI, 6, .inl z0))]) hC 0 6 rfl q401 rfl (by decide) (Nat.le_of_ble_eq_true rfl) (Nat.le_of_ble_eq_true rfl) dX0_init_47 (fun _ => rfl) rfl (fun q6 => ?_)
  refine z_putF (ws' := [(a, .inr (0, [.ref q1, .ref q2, .ref q3, .ref q4, .ref q5, .ref q6, .null, .null, .int (nI 0)])), (q1, .inl (cI, 6, .inl z0)), (q2, .inl (cI, 6, .inl z0)), (q3, .inl (cI, 6, .inl z0)), (q4, .inl (cI, 6, .inl z0)), (q5, .inl (cI, 6, .inl z0)), (q6, .inl (cI, 6, .inl z0))]) (n := 52) hC 5 inX0 tyX0 tyX0_ok nmX0 rfl (by decide) q31 rfl hname rfl (tyX0_ok 5 (by decide)) 0 rfl rfl rfl (Nat.le_of_ble_eq_true rfl) dX0_init_49 rfl rfl ?_
  refine z_aload_n (n := 53) hC dX0_init_52 rfl 0 rfl rfl ?_
  refine z_bipush (v := nI 6) (n := 55) hC dX0_init_53 (by decide) rfl ?_
  refine z_newaZ (n := 57) (ws2 := fun q7 => [(a, .inr (0, [.ref q1, .ref q2, .ref q3, .ref q4, .ref q5, .ref q6, .null, .null, .int (nI 0)])), (q1, .inl (cI, 6, .inl z0)), (q2, .inl (cI, 6, .inl z0)), (q3, .inl (cI, 6, .inl z0)), (q4, .inl (cI, 6, .inl z0)), (q5, .inl (cI, 6, .inl z0)), (q6, .inl (cI, 6, .inl z0)), (q7, .inl (cZ, 6, .inl (bI lf0)))]) hC 1 6 rfl q404 rfl (by decide) (Nat.le_of_ble_eq_true rfl) (Nat.le_of_ble_eq_true rfl) dX0_init_55 (fun _ => rfl) rfl (fun q7 => ?_)
  refine z_putF (ws' := [(a, .inr (0, [.ref q1, .ref q2, .ref q3, .ref q4, .ref q5, .ref q6, .ref q7, .null, .int (nI 0)])), (q1, .inl (cI, 6, .inl z0)), (q2, .inl (cI, 6, .inl z0)), (q3, .inl (cI, 6, .inl z0)), (q4, .inl (cI, 6, .inl z0)), (q5, .inl (cI, 6, .inl z0)), (q6, .inl (cI, 6, .inl z0)), (q7, .inl (cZ, 6, .inl (bI lf0)))]) (n := 60) hC 6 inX0 tyX0 tyX0_ok nmX0 rfl (by decide) q33 rfl hname rfl (tyX0_ok 6 (by decide)) 0 rfl rfl rfl (Nat.le_of_ble_eq_true rfl) dX0_init_57 rfl rfl ?_
  refine z_aload_n (n := 61) hC dX0_init_60 rfl 0 rfl rfl ?_
  refine z_bipush (v := nI 6) (n := 63) hC dX0_init_61 (by decide) rfl ?_
  refine z_newaZ (n := 65) (ws2 := fun q8 => [(a, .inr (0, [.ref q1, .ref q2, .ref q3, .ref q4, .ref q5, .ref q6, .ref q7, .null, .int (nI 0)])), (q1, .inl (cI, 6, .inl z0)), (q2, .inl (cI, 6, .inl z0)), (q3, .inl (cI, 6, .inl z0)), (q4, .inl (cI, 6, .inl z0)), (q5, .inl (cI, 6, .inl z0)), (q6, .inl (cI, 6, .inl z0)), (q7, .inl (cZ, 6, .inl (bI lf0))), (q8, .inl (cZ, 6, .inl (bI lf0)))]) hC 1 6 rfl q404 rfl (by decide) (Nat.le_of_ble_eq_true rfl) (Nat.le_of_ble_eq_true rfl) dX0_init_63 (fun _ => rfl) rfl (fun q8 => ?_)
  refine z_putF (ws' := [(a, .inr (0, [.ref q1, .ref q2, .ref q3, .ref q4, .ref q5, .ref q6, .ref q7, .ref q8, .int (nI 0)])), (q1, .inl (cI, 6, .inl z0)), (q2, .inl (cI, 6, .inl z0)), (q3, .inl (cI, 6, .inl z0)), (q4, .inl (cI, 6, .inl z0)), (q5, .inl (cI, 6, .inl z0)), (q6, .inl (cI, 6, .inl z0)), (q7, .inl (cZ, 6, .inl (bI lf0))), (q8, .inl (cZ, 6, .inl (bI lf0)))]) (n := 68) hC 7 inX0 tyX0 tyX0_ok nmX0 rfl (by decide) q34 rfl hname rfl (tyX0_ok 7 (by decide)) 0 rfl rfl rfl (Nat.le_of_ble_eq_true rfl) dX0_init_65 rfl rfl ?_
  exact z_vret hC hr hlocks (fun k => [a, q1, q2, q3, q4, q5, q6, q7, q8].getD k 0) rfl rfl dX0_init_68 (Nat.le_of_ble_eq_true rfl) (Nat.le_of_ble_eq_true rfl)

set_option maxRecDepth 100000 in
set_option maxHeartbeats 4000000 in
theorem k_X1_init (l : Launch) (G : va_G) (cI cZ cJ : ClassId) (a : Nat) : MV (Nat → Nat) l yX1_init cX1_init 2 1 20 G (tY cI cZ cJ) [.ref a] [(a, .inr (1, [.null, .null]))] (fun u => u 0 = a) (fun u => wT u cI z0 sp0) 2 10 := by
  refine MV_of (by decide) (Nat.le_of_ble_eq_true rfl) [(0, .ref a)] rfl ?_
  intro p e s m below meth c hC hr hlocks hname
  have hC : Cx p s m _ c cX1_init 2 RX1 G (tY cI cZ cJ) _ := hC
  refine z_aload_n (n := 1) hC dX1_init_0 rfl 0 rfl rfl ?_
  refine z_objI (n := 4) hC q55 q423 q424 dX1_init_1 (Nat.le_of_ble_eq_true rfl) (Nat.le_of_ble_eq_true rfl) (Nat.le_of_ble_eq_true rfl) rfl ?_
  refine z_aload_n (n := 5) hC dX1_init_4 rfl 0 rfl rfl ?_
  refine z_iconst (v := nI 5) (n := 6) hC dX1_init_5 (by decide) rfl ?_
  refine z_newaI (n := 8) (ws2 := fun q1 => [(a, .inr (1, [.null, .null])), (q1, .inl (cI, 5, .inl z0))]) hC 0 5 rfl q401 rfl (by decide) (Nat.le_of_ble_eq_true rfl) (Nat.le_of_ble_eq_true rfl) dX1_init_6 (fun _ => rfl) rfl (fun q1 => ?_)
  refine z_putF (ws' := [(a, .inr (1, [.ref q1, .null])), (q1, .inl (cI, 5, .inl z0))]) (n := 11) hC 0 inX1 tyX1 tyX1_ok nmX1 rfl (by decide) q18 rfl hname rfl (tyX1_ok 0 (by decide)) 0 rfl rfl rfl (Nat.le_of_ble_eq_true rfl) dX1_init_8 rfl rfl ?_
  refine z_aload_n (n := 12) hC dX1_init_11 rfl 0 rfl rfl ?_
  refine z_iconst (v := nI 5) (n := 13) hC dX1_init_12 (by decide) rfl ?_
  refine z_newaI (n := 15) (ws2 := fun q2 => [(a, .inr (1, [.ref q1, .null])), (q1, .inl (cI, 5, .inl z0)), (q2, .inl (cI, 5, .inl z0))]) hC 0 5 rfl q401 rfl (by decide) (Nat.le_of_ble_eq_true rfl) (Nat.le_of_ble_eq_true rfl) dX1_init_13 (fun _ => rfl) rfl (fun q2 => ?_)
  refine z_putF (ws' := [(a, .inr (1, [.ref q1, .ref q2])), (q1, .inl (cI, 5, .inl z0)), (q2, .inl (cI, 5, .inl z0))]) (n := 18) hC 1 inX1 tyX1 tyX1_ok nmX1 rfl (by decide) q20 rfl hname rfl (tyX1_ok 1 (by decide)) 0 rfl rfl rfl (Nat.le_of_ble_eq_true rfl) dX1_init_15 rfl rfl ?_
  refine z_iconst (v := nI 0) (n := 19) hC dX1_init_18 (by decide) rfl ?_
  refine z_istore_n (lv' := [(1, .int (nI 0)), (0, .ref a)]) (n := 20) hC dX1_init_19 rfl (by decide) rfl rfl ?_
  refine z_iload_n (n := 21) hC dX1_init_20 rfl 0 rfl rfl ?_
  refine z_iconst (v := nI 5) (n := 22) hC dX1_init_21 (by decide) rfl ?_
  refine z_icmp_ge_n (tgt := 39) (n := 25) hC 0 5 rfl rfl (by omega) (by omega) dX1_init_22 (by decide) rfl (fun h9 => absurd h9 (by omega)) (fun h9 => ?_)
  refine z_aload_n (n := 26) hC dX1_init_25 rfl 1 rfl rfl ?_
  refine gf_X1_15 (v := .ref q2) (n := 29) hC 0 rfl rfl dX1_init_26 rfl ?_
  refine z_iload_n (n := 30) hC dX1_init_29 rfl 0 rfl rfl ?_
  refine z_bipush (v := nI 20) (n := 32) hC dX1_init_30 (by decide) rfl ?_
  refine z_iast (ws' := [(a, .inr (1, [.ref q1, .ref q2])), (q1, .inl (cI, 5, .inl z0)), (q2, .inl (cI, 5, .inl (upd z0 0 (nI 20))))]) (n := 33) hC 2 0 0 rfl rfl rfl (by omega) (by decide) dX1_init_32 rfl rfl rfl ?_
  refine z_iinc (k0 := 0) (v := nI 1) (lv' := [(1, .int (nI 1)), (0, .ref a)]) (n := 36) hC dX1_init_33 rfl (nI_add 0 1) (by decide) rfl rfl ?_
  refine z_goto (n := 20) hC dX1_init_36 (by decide) ?_
  refine z_iload_n (n := 21) hC dX1_init_20 rfl 0 rfl rfl ?_
  refine z_iconst (v := nI 5) (n := 22) hC dX1_init_21 (by decide) rfl ?_
  refine z_icmp_ge_n (tgt := 39) (n := 25) hC 1 5 rfl rfl (by omega) (by omega) dX1_init_22 (by decide) rfl (fun h9 => absurd h9 (by omega)) (fun h9 => ?_)
  refine z_aload_n (n := 26) hC dX1_init_25 rfl 1 rfl rfl ?_
  refine gf_X1_15 (v := .ref q2) (n := 29) hC 0 rfl rfl dX1_init_26 rfl ?_
  refine z_iload_n (n := 30) hC dX1_init_29 rfl 0 rfl rfl ?_
  refine z_bipush (v := nI 20) (n := 32) hC dX1_init_30 (by decide) rfl ?_
  refine z_iast (ws' := [(a, .inr (1, [.ref q1, .ref q2])), (q1, .inl (cI, 5, .inl z0)), (q2, .inl (cI, 5, .inl (upd (upd z0 0 (nI 20)) 1 (nI 20))))]) (n := 33) hC 2 0 1 rfl rfl rfl (by omega) (by decide) dX1_init_32 rfl rfl rfl ?_
  refine z_iinc (k0 := 0) (v := nI 2) (lv' := [(1, .int (nI 2)), (0, .ref a)]) (n := 36) hC dX1_init_33 rfl (nI_add 1 1) (by decide) rfl rfl ?_
  refine z_goto (n := 20) hC dX1_init_36 (by decide) ?_
  refine z_iload_n (n := 21) hC dX1_init_20 rfl 0 rfl rfl ?_
  refine z_iconst (v := nI 5) (n := 22) hC dX1_init_21 (by decide) rfl ?_
  refine z_icmp_ge_n (tgt := 39) (n := 25) hC 2 5 rfl rfl (by omega) (by omega) dX1_init_22 (by decide) rfl (fun h9 => absurd h9 (by omega)) (fun h9 => ?_)
  refine z_aload_n (n := 26) hC dX1_init_25 rfl 1 rfl rfl ?_
  refine gf_X1_15 (v := .ref q2) (n := 29) hC 0 rfl rfl dX1_init_26 rfl ?_
  refine z_iload_n (n := 30) hC dX1_init_29 rfl 0 rfl rfl ?_
  refine z_bipush (v := nI 20) (n := 32) hC dX1_init_30 (by decide) rfl ?_
  refine z_iast (ws' := [(a, .inr (1, [.ref q1, .ref q2])), (q1, .inl (cI, 5, .inl z0)), (q2, .inl (cI, 5, .inl (upd (upd (upd z0 0 (nI 20)) 1 (nI 20)) 2 (nI 20))))]) (n := 33) hC 2 0 2 rfl rfl rfl (by omega) (by decide) dX1_init_32 rfl rfl rfl ?_
  refine z_iinc (k0 := 0) (v := nI 3) (lv' := [(1, .int (nI 3)), (0, .ref a)]) (n := 36) hC dX1_init_33 rfl (nI_add 2 1) (by decide) rfl rfl ?_
  refine z_goto (n := 20) hC dX1_init_36 (by decide) ?_
  refine z_iload_n (n := 21) hC dX1_init_20 rfl 0 rfl rfl ?_
  refine z_iconst (v := nI 5) (n := 22) hC dX1_init_21 (by decide) rfl ?_
  refine z_icmp_ge_n (tgt := 39) (n := 25) hC 3 5 rfl rfl (by omega) (by omega) dX1_init_22 (by decide) rfl (fun h9 => absurd h9 (by omega)) (fun h9 => ?_)
  refine z_aload_n (n := 26) hC dX1_init_25 rfl 1 rfl rfl ?_
  refine gf_X1_15 (v := .ref q2) (n := 29) hC 0 rfl rfl dX1_init_26 rfl ?_
  refine z_iload_n (n := 30) hC dX1_init_29 rfl 0 rfl rfl ?_
  refine z_bipush (v := nI 20) (n := 32) hC dX1_init_30 (by decide) rfl ?_
  refine z_iast (ws' := [(a, .inr (1, [.ref q1, .ref q2])), (q1, .inl (cI, 5, .inl z0)), (q2, .inl (cI, 5, .inl (upd (upd (upd (upd z0 0 (nI 20)) 1 (nI 20)) 2 (nI 20)) 3 (nI 20))))]) (n := 33) hC 2 0 3 rfl rfl rfl (by omega) (by decide) dX1_init_32 rfl rfl rfl ?_
  refine z_iinc (k0 := 0) (v := nI 4) (lv' := [(1, .int (nI 4)), (0, .ref a)]) (n := 36) hC dX1_init_33 rfl (nI_add 3 1) (by decide) rfl rfl ?_
  refine z_goto (n := 20) hC dX1_init_36 (by decide) ?_
  refine z_iload_n (n := 21) hC dX1_init_20 rfl 0 rfl rfl ?_
  refine z_iconst (v := nI 5) (n := 22) hC dX1_init_21 (by decide) rfl ?_
  refine z_icmp_ge_n (tgt := 39) (n := 25) hC 4 5 rfl rfl (by omega) (by omega) dX1_init_22 (by decide) rfl (fun h9 => absurd h9 (by omega)) (fun h9 => ?_)
  refine z_aload_n (n := 26) hC dX1_init_25 rfl 1 rfl rfl ?_
  refine gf_X1_15 (v := .ref q2) (n := 29) hC 0 rfl rfl dX1_init_26 rfl ?_
  refine z_iload_n (n := 30) hC dX1_init_29 rfl 0 rfl rfl ?_
  refine z_bipush (v := nI 20) (n := 32) hC dX1_init_30 (by decide) rfl ?_
  refine z_iast (ws' := [(a, .inr (1, [.ref q1, .ref q2])), (q1, .inl (cI, 5, .inl z0)), (q2, .inl (cI, 5, .inl (upd (upd (upd (upd (upd z0 0 (nI 20)) 1 (nI 20)) 2 (nI 20)) 3 (nI 20)) 4 (nI 20))))]) (n := 33) hC 2 0 4 rfl rfl rfl (by omega) (by decide) dX1_init_32 rfl rfl rfl ?_
  refine z_iinc (k0 := 0) (v := nI 5) (lv' := [(1, .int (nI 5)), (0, .ref a)]) (n := 36) hC dX1_init_33 rfl (nI_add 4 1) (by decide) rfl rfl ?_
  refine z_goto (n := 20) hC dX1_init_36 (by decide) ?_
  refine z_iload_n (n := 21) hC dX1_init_20 rfl 0 rfl rfl ?_
  refine z_iconst (v := nI 5) (n := 22) hC dX1_init_21 (by decide) rfl ?_
  refine z_icmp_ge_n (tgt := 39) (n := 25) hC 5 5 rfl rfl (by omega) (by omega) dX1_init_22 (by decide) rfl (fun h9 => ?_) (fun h9 => absurd h9 (by omega))
  exact z_vret hC hr hlocks (fun k => [a, q1, q2].getD k 0) rfl rfl dX1_init_39 (Nat.le_of_ble_eq_true rfl) (Nat.le_of_ble_eq_true rfl)

set_option maxRecDepth 100000 in
set_option maxHeartbeats 4000000 in
theorem k_X2_init (l : Launch) (G : va_G) (cI cZ cJ : ClassId) (a : Nat) : MV ((Nat → Nat) × (Nat → Nat) × (Nat → Nat)) l yX2_init cX2_init 1 2 41 G (tY cI cZ cJ) [.ref a] [(a, .inr (2, [.null, .null, .null, .int (nI 0)]))] (fun _ => True) (fun u => (wH a u.1 u.2.1 u.2.2 0) ++ (wT u.1 cI z0 sp0) ++ (wS u.2.1 cI cZ z0 z0 z0 z0 z0 z0 lf0 lf0 0) ++ (wS u.2.2 cI cZ z0 z0 z0 z0 z0 z0 lf0 lf0 0)) 21 126 := by
  refine MV_of (by decide) (Nat.le_of_ble_eq_true rfl) [(0, .ref a)] rfl ?_
  intro p e s m below meth c hC hr hlocks hname
  have hC : Cx p s m _ c cX2_init 1 RX2 G (tY cI cZ cJ) _ := hC
  refine z_aload_n (n := 1) hC dX2_init_0 rfl 0 rfl rfl ?_
  refine z_objI (n := 4) hC q50 q423 q424 dX2_init_1 (Nat.le_of_ble_eq_true rfl) (Nat.le_of_ble_eq_true rfl) (Nat.le_of_ble_eq_true rfl) rfl ?_
  refine z_aload_n (n := 5) hC dX2_init_4 rfl 0 rfl rfl ?_
  refine z_new (n := 8) (ws2 := fun q1 => [(a, .inr (2, [.null, .null, .null, .int (nI 0)])), (q1, .inr (1, [.null, .null]))]) hC inX1 tyX1 tyX1_ok rfl q399 q400 q54 [.null, .null] (fun j hj => by rcases (show j = 0 ∨ j = 1 by omega) with rfl | rfl <;> rfl) (Nat.le_of_ble_eq_true rfl) (Nat.le_of_ble_eq_true rfl) dX2_init_5 (fun _ => rfl) rfl (fun q1 => ?_)
  refine z_dup (n := 9) hC dX2_init_8 rfl rfl ?_
  refine z_callc (S := Nat → Nat) (n := 12) hC (fun u => [(u 0, .inr (1, [.ref (u 1), .ref (u 2)]))]) (fun u => [(u 1, .inl (cI, 5, .inl z0)), (u 2, .inl (cI, 5, .inl sp0))]) (k_X1_init l G cI cZ cJ q1) kg_X2_9 q52 q53 q54 rfl kd_yX1_init dX2_init_9 ⟨Nat.le_of_ble_eq_true rfl, Nat.le_of_ble_eq_true rfl⟩ [1] rfl (by decide) (Nat.le_of_ble_eq_true rfl) ⟨Nat.le_of_ble_eq_true rfl, Nat.le_of_ble_eq_true rfl⟩ (fun u => [(a, .inr (2, [.null, .null, .null, .int (nI 0)])), (u 0, .inr (1, [.ref (u 1), .ref (u 2)]))]) [0] (fun _ => rfl) [(a, .inr (2, [.null, .null, .null, .int (nI 0)]))] (fun _ => rfl) rfl (fun _ => rfl) (fun u hu => by have hu : u 0 = q1 := hu; subst hu; rfl) (fun u => [(a, .inr (2, [.null, .null, .null, .int (nI 0)])), (u 0, .inr (1, [.ref (u 1), .ref (u 2)])), (u 1, .inl (cI, 5, .inl z0)), (u 2, .inl (cI, 5, .inl sp0))]) (fun _ _ => rfl) rfl (fun u2 hu2 => ?_)
  have hu2 : u2 0 = q1 := hu2
  subst hu2
  refine z_putF (ws' := [(a, .inr (2, [.ref (u2 0), .null, .null, .int (nI 0)])), (u2 0, .inr (1, [.ref (u2 1), .ref (u2 2)])), (u2 1, .inl (cI, 5, .inl z0)), (u2 2, .inl (cI, 5, .inl sp0))]) (n := 15) hC 0 inX2 tyX2 tyX2_ok nmX2 rfl (by decide) q37 rfl hname rfl (tyX2_ok 0 (by decide)) 0 rfl rfl rfl (Nat.le_of_ble_eq_true rfl) dX2_init_12 rfl rfl ?_
  refine z_aload_n (n := 16) hC dX2_init_15 rfl 0 rfl rfl ?_
  refine z_new (n := 19) (ws2 := fun q3 => [(a, .inr (2, [.ref (u2 0), .null, .null, .int (nI 0)])), (u2 0, .inr (1, [.ref (u2 1), .ref (u2 2)])), (u2 1, .inl (cI, 5, .inl z0)), (u2 2, .inl (cI, 5, .inl sp0)), (q3, .inr (0, [.null, .null, .null, .null, .null, .null, .null, .null, .int (nI 0)]))]) hC inX0 tyX0 tyX0_ok rfl q402 q403 q70 [.null, .null, .null, .null, .null, .null, .null, .null, .int (nI 0)] (fun j hj => by rcases (show j = 0 ∨ j = 1 ∨ j = 2 ∨ j = 3 ∨ j = 4 ∨ j = 5 ∨ j = 6 ∨ j = 7 ∨ j = 8 by omega) with rfl | rfl | rfl | rfl | rfl | rfl | rfl | rfl | rfl <;> rfl) (Nat.le_of_ble_eq_true rfl) (Nat.le_of_ble_eq_true rfl) dX2_init_16 (fun _ => rfl) rfl (fun q3 => ?_)
  refine z_dup (n := 20) hC dX2_init_19 rfl rfl ?_
  refine z_callcN (S := Nat → Nat) (n := 23) hC (fun u => [(u 0, .inr (0, [.ref (u 1), .ref (u 2), .ref (u 3), .ref (u 4), .ref (u 5), .ref (u 6), .ref (u 7), .ref (u 8), .int (nI 0)]))]) (fun u => [(u 1, .inl (cI, 6, .inl z0)), (u 2, .inl (cI, 6, .inl z0)), (u 3, .inl (cI, 6, .inl z0)), (u 4, .inl (cI, 6, .inl z0)), (u 5, .inl (cI, 6, .inl z0)), (u 6, .inl (cI, 6, .inl z0)), (u 7, .inl (cZ, 6, .inl (bI lf0))), (u 8, .inl (cZ, 6, .inl (bI lf0)))]) (k_X0_init l G cI cZ cJ q3) kg_X2_18 (by simp [zNW]) qi0 q70 rfl kd_yX0_init dX2_init_20 ⟨Nat.le_of_ble_eq_true rfl, Nat.le_of_ble_eq_true rfl⟩ [4] rfl (by decide) (Nat.le_of_ble_eq_true rfl) ⟨Nat.le_of_ble_eq_true rfl, Nat.le_of_ble_eq_true rfl⟩ (fun u => [(a, .inr (2, [.ref (u2 0), .null, .null, .int (nI 0)])), (u2 0, .inr (1, [.ref (u2 1), .ref (u2 2)])), (u2 1, .inl (cI, 5, .inl z0)), (u2 2, .inl (cI, 5, .inl sp0)), (u 0, .inr (0, [.ref (u 1), .ref (u 2), .ref (u 3), .ref (u 4), .ref (u 5), .ref (u 6), .ref (u 7), .ref (u 8), .int (nI 0)]))]) [0, 1, 2, 3] (fun _ => rfl) [(a, .inr (2, [.ref (u2 0), .null, .null, .int (nI 0)])), (u2 0, .inr (1, [.ref (u2 1), .ref (u2 2)])), (u2 1, .inl (cI, 5, .inl z0)), (u2 2, .inl (cI, 5, .inl sp0))] (fun _ => rfl) rfl (fun _ => rfl) (fun u hu => by have hu : u 0 = q3 := hu; subst hu; rfl) (fun u => [(a, .inr (2, [.ref (u2 0), .null, .null, .int (nI 0)])), (u2 0, .inr (1, [.ref (u2 1), .ref (u2 2)])), (u2 1, .inl (cI, 5, .inl z0)), (u2 2, .inl (cI, 5, .inl sp0)), (u 0, .inr (0, [.ref (u 1), .ref (u 2), .ref (u 3), .ref (u 4), .ref (u 5), .ref (u 6), .ref (u 7), .ref (u 8), .int (nI 0)])), (u 1, .inl (cI, 6, .inl z0)), (u 2, .inl (cI, 6, .inl z0)), (u 3, .inl (cI, 6, .inl z0)), (u 4, .inl (cI, 6, .inl z0)), (u 5, .inl (cI, 6, .inl z0)), (u 6, .inl (cI, 6, .inl z0)), (u 7, .inl (cZ, 6, .inl (bI lf0))), (u 8, .inl (cZ, 6, .inl (bI lf0)))]) (fun _ _ => rfl) rfl (fun u4 hu4 => ?_)
  have hu4 : u4 0 = q3 := hu4
  subst hu4
  refine z_putF (ws' := [(a, .inr (2, [.ref (u2 0), .ref (u4 0), .null, .int (nI 0)])), (u2 0, .inr (1, [.ref (u2 1), .ref (u2 2)])), (u2 1, .inl (cI, 5, .inl z0)), (u2 2, .inl (cI, 5, .inl sp0)), (u4 0, .inr (0, [.ref (u4 1), .ref (u4 2), .ref (u4 3), .ref (u4 4), .ref (u4 5), .ref (u4 6), .ref (u4 7), .ref (u4 8), .int (nI 0)])), (u4 1, .inl (cI, 6, .inl z0)), (u4 2, .inl (cI, 6, .inl z0)), (u4 3, .inl (cI, 6, .inl z0)), (u4 4, .inl (cI, 6, .inl z0)), (u4 5, .inl (cI, 6, .inl z0)), (u4 6, .inl (cI, 6, .inl z0)), (u4 7, .inl (cZ, 6, .inl (bI lf0))), (u4 8, .inl (cZ, 6, .inl (bI lf0)))]) (n := 26) hC 1 inX2 tyX2 tyX2_ok nmX2 rfl (by decide) q38 rfl hname rfl (tyX2_ok 1 (by decide)) 0 rfl rfl rfl (Nat.le_of_ble_eq_true rfl) dX2_init_23 rfl rfl ?_
  refine z_aload_n (n := 27) hC dX2_init_26 rfl 0 rfl rfl ?_
  refine z_new (n := 30) (ws2 := fun q5 => [(a, .inr (2, [.ref (u2 0), .ref (u4 0), .null, .int (nI 0)])), (u2 0, .inr (1, [.ref (u2 1), .ref (u2 2)])), (u2 1, .inl (cI, 5, .inl z0)), (u2 2, .inl (cI, 5, .inl sp0)), (u4 0, .inr (0, [.ref (u4 1), .ref (u4 2), .ref (u4 3), .ref (u4 4), .ref (u4 5), .ref (u4 6), .ref (u4 7), .ref (u4 8), .int (nI 0)])), (u4 1, .inl (cI, 6, .inl z0)), (u4 2, .inl (cI, 6, .inl z0)), (u4 3, .inl (cI, 6, .inl z0)), (u4 4, .inl (cI, 6, .inl z0)), (u4 5, .inl (cI, 6, .inl z0)), (u4 6, .inl (cI, 6, .inl z0)), (u4 7, .inl (cZ, 6, .inl (bI lf0))), (u4 8, .inl (cZ, 6, .inl (bI lf0))), (q5, .inr (0, [.null, .null, .null, .null, .null, .null, .null, .null, .int (nI 0)]))]) hC inX0 tyX0 tyX0_ok rfl q402 q403 q70 [.null, .null, .null, .null, .null, .null, .null, .null, .int (nI 0)] (fun j hj => by rcases (show j = 0 ∨ j = 1 ∨ j = 2 ∨ j = 3 ∨ j = 4 ∨ j = 5 ∨ j = 6 ∨ j = 7 ∨ j = 8 by omega) with rfl | rfl | rfl | rfl | rfl | rfl | rfl | rfl | rfl <;> rfl) (Nat.le_of_ble_eq_true rfl) (Nat.le_of_ble_eq_true rfl) dX2_init_27 (fun _ => rfl) rfl (fun q5 => ?_)
  refine z_dup (n := 31) hC dX2_init_30 rfl rfl ?_
  refine z_callcN (S := Nat → Nat) (n := 34) hC (fun u => [(u 0, .inr (0, [.ref (u 1), .ref (u 2), .ref (u 3), .ref (u 4), .ref (u 5), .ref (u 6), .ref (u 7), .ref (u 8), .int (nI 0)]))]) (fun u => [(u 1, .inl (cI, 6, .inl z0)), (u 2, .inl (cI, 6, .inl z0)), (u 3, .inl (cI, 6, .inl z0)), (u 4, .inl (cI, 6, .inl z0)), (u 5, .inl (cI, 6, .inl z0)), (u 6, .inl (cI, 6, .inl z0)), (u 7, .inl (cZ, 6, .inl (bI lf0))), (u 8, .inl (cZ, 6, .inl (bI lf0)))]) (k_X0_init l G cI cZ cJ q5) kg_X2_18 (by simp [zNW]) qi0 q70 rfl kd_yX0_init dX2_init_31 ⟨Nat.le_of_ble_eq_true rfl, Nat.le_of_ble_eq_true rfl⟩ [13] rfl (by decide) (Nat.le_of_ble_eq_true rfl) ⟨Nat.le_of_ble_eq_true rfl, Nat.le_of_ble_eq_true rfl⟩ (fun u => [(a, .inr (2, [.ref (u2 0), .ref (u4 0), .null, .int (nI 0)])), (u2 0, .inr (1, [.ref (u2 1), .ref (u2 2)])), (u2 1, .inl (cI, 5, .inl z0)), (u2 2, .inl (cI, 5, .inl sp0)), (u4 0, .inr (0, [.ref (u4 1), .ref (u4 2), .ref (u4 3), .ref (u4 4), .ref (u4 5), .ref (u4 6), .ref (u4 7), .ref (u4 8), .int (nI 0)])), (u4 1, .inl (cI, 6, .inl z0)), (u4 2, .inl (cI, 6, .inl z0)), (u4 3, .inl (cI, 6, .inl z0)), (u4 4, .inl (cI, 6, .inl z0)), (u4 5, .inl (cI, 6, .inl z0)), (u4 6, .inl (cI, 6, .inl z0)), (u4 7, .inl (cZ, 6, .inl (bI lf0))), (u4 8, .inl (cZ, 6, .inl (bI lf0))), (u 0, .inr (0, [.ref (u 1), .ref (u 2), .ref (u 3), .ref (u 4), .ref (u 5), .ref (u 6), .ref (u 7), .ref (u 8), .int (nI 0)]))]) [0, 1, 2, 3, 4, 5, 6, 7, 8, 9, 10, 11, 12] (fun _ => rfl) [(a, .inr (2, [.ref (u2 0), .ref (u4 0), .null, .int (nI 0)])), (u2 0, .inr (1, [.ref (u2 1), .ref (u2 2)])), (u2 1, .inl (cI, 5, .inl z0)), (u2 2, .inl (cI, 5, .inl sp0)), (u4 0, .inr (0, [.ref (u4 1), .ref (u4 2), .ref (u4 3), .ref (u4 4), .ref (u4 5), .ref (u4 6), .ref (u4 7), .ref (u4 8), .int (nI 0)])), (u4 1, .inl (cI, 6, .inl z0)), (u4 2, .inl (cI, 6, .inl z0)), (u4 3, .inl (cI, 6, .inl z0)), (u4 4, .inl (cI, 6, .inl z0)), (u4 5, .inl (cI, 6, .inl z0)), (u4 6, .inl (cI, 6, .inl z0)), (u4 7, .inl (cZ, 6, .inl (bI lf0))), (u4 8, .inl (cZ, 6, .inl (bI lf0)))] (fun _ => rfl) rfl (fun _ => rfl) (fun u hu => by have hu : u 0 = q5 := hu; subst hu; rfl) (fun u => [(a, .inr (2, [.ref (u2 0), .ref (u4 0), .null, .int (nI 0)])), (u2 0, .inr (1, [.ref (u2 1), .ref (u2 2)])), (u2 1, .inl (cI, 5, .inl z0)), (u2 2, .inl (cI, 5, .inl sp0)), (u4 0, .inr (0, [.ref (u4 1), .ref (u4 2), .ref (u4 3), .ref (u4 4), .ref (u4 5), .ref (u4 6), .ref (u4 7), .ref (u4 8), .int (nI 0)])), (u4 1, .inl (cI, 6, .inl z0)), (u4 2, .inl (cI, 6, .inl z0)), (u4 3, .inl (cI, 6, .inl z0)), (u4 4, .inl (cI, 6, .inl z0)), (u4 5, .inl (cI, 6, .inl z0)), (u4 6, .inl (cI, 6, .inl z0)), (u4 7, .inl (cZ, 6, .inl (bI lf0))), (u4 8, .inl (cZ, 6, .inl (bI lf0))), (u 0, .inr (0, [.ref (u 1), .ref (u 2), .ref (u 3), .ref (u 4), .ref (u 5), .ref (u 6), .ref (u 7), .ref (u 8), .int (nI 0)])), (u 1, .inl (cI, 6, .inl z0)), (u 2, .inl (cI, 6, .inl z0)), (u 3, .inl (cI, 6, .inl z0)), (u 4, .inl (cI, 6, .inl z0)), (u 5, .inl (cI, 6, .inl z0)), (u 6, .inl (cI, 6, .inl z0)), (u 7, .inl (cZ, 6, .inl (bI lf0))), (u 8, .inl (cZ, 6, .inl (bI lf0)))]) (fun _ _ => rfl) rfl (fun u6 hu6 => ?_)
  have hu6 : u6 0 = q5 := hu6
  subst hu6
  refine z_putF (ws' := [(a, .inr (2, [.ref (u2 0), .ref (u4 0), .ref (u6 0), .int (nI 0)])), (u2 0, .inr (1, [.ref (u2 1), .ref (u2 2)])), (u2 1, .inl (cI, 5, .inl z0)), (u2 2, .inl (cI, 5, .inl sp0)), (u4 0, .inr (0, [.ref (u4 1), .ref (u4 2), .ref (u4 3), .ref (u4 4), .ref (u4 5), .ref (u4 6), .ref (u4 7), .ref (u4 8), .int (nI 0)])), (u4 1, .inl (cI, 6, .inl z0)), (u4 2, .inl (cI, 6, .inl z0)), (u4 3, .inl (cI, 6, .inl z0)), (u4 4, .inl (cI, 6, .inl z0)), (u4 5, .inl (cI, 6, .inl z0)), (u4 6, .inl (cI, 6, .inl z0)), (u4 7, .inl (cZ, 6, .inl (bI lf0))), (u4 8, .inl (cZ, 6, .inl (bI lf0))), (u6 0, .inr (0, [.ref (u6 1), .ref (u6 2), .ref (u6 3), .ref (u6 4), .ref (u6 5), .ref (u6 6), .ref (u6 7), .ref (u6 8), .int (nI 0)])), (u6 1, .inl (cI, 6, .inl z0)), (u6 2, .inl (cI, 6, .inl z0)), (u6 3, .inl (cI, 6, .inl z0)), (u6 4, .inl (cI, 6, .inl z0)), (u6 5, .inl (cI, 6, .inl z0)), (u6 6, .inl (cI, 6, .inl z0)), (u6 7, .inl (cZ, 6, .inl (bI lf0))), (u6 8, .inl (cZ, 6, .inl (bI lf0)))]) (n := 37) hC 2 inX2 tyX2 tyX2_ok nmX2 rfl (by decide) q39 rfl hname rfl (tyX2_ok 2 (by decide)) 0 rfl rfl rfl (Nat.le_of_ble_eq_true rfl) dX2_init_34 rfl rfl ?_
  exact z_vret hC hr hlocks (u2, u4, u6) trivial rfl dX2_init_37 (Nat.le_of_ble_eq_true rfl) (Nat.le_of_ble_eq_true rfl)
