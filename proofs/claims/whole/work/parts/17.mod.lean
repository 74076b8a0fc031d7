set_option maxRecDepth 100000 in
set_option maxHeartbeats 4000000 in
theorem k_J6_bitCount_0f7a4 (l : Launch) (G : va_G) (cI cZ cJ : ClassId) (lf : Nat → Bool) (n : Nat) (hn : n ≤ 6) : MI (Unit) l yJ6_bitCount_0f7a4 cJ6_bitCount_0f7a4 1 0 0 G (tY cI cZ cJ) [.int (nI (mkF lf n))] ([]) (fun zr _ => zr = nI (ctF lf n)) (fun _ => []) 0 0 := by
  refine MI_of (by decide) (Nat.le_of_ble_eq_true rfl) [(0, .int (nI (mkF lf n)))] rfl ?_
  intro p e s m below meth c hC hr hlocks hname
  have hC : Cx p s m _ c cJ6_bitCount_0f7a4 1 RJ6 G (tY cI cZ cJ) _ := hC
  refine z_iload_n (n := 1) hC dJ6_bitCount_0f7a4_0 rfl 0 rfl rfl ?_
  refine z_iload_n (n := 2) hC dJ6_bitCount_0f7a4_1 rfl 0 rfl rfl ?_
  refine z_iconst (v := nI 1) (n := 3) hC dJ6_bitCount_0f7a4_2 (by decide) rfl ?_
  refine z_iushr (v := ((nI (mkF lf n)).toUInt32 >>> ((nI 1).toUInt32 &&& Int32.toUInt32 31)).toInt32) (n := 4) hC dJ6_bitCount_0f7a4_3 rfl rfl ?_
  refine z_ldcw (v := 1431655765) (n := 7) hC q647 dJ6_bitCount_0f7a4_4 rfl ?_
  refine z_iand (v := (((nI (mkF lf n)).toUInt32 >>> ((nI 1).toUInt32 &&& Int32.toUInt32 31)).toInt32) &&& (1431655765 : Int32)) (n := 8) hC dJ6_bitCount_0f7a4_7 rfl rfl ?_
  refine z_isub (v := (nI (mkF lf n)) - ((((nI (mkF lf n)).toUInt32 >>> ((nI 1).toUInt32 &&& Int32.toUInt32 31)).toInt32) &&& (1431655765 : Int32))) (n := 9) hC dJ6_bitCount_0f7a4_8 rfl rfl ?_
  refine z_istore_n (lv' := [(0, .int ((nI (mkF lf n)) - ((((nI (mkF lf n)).toUInt32 >>> ((nI 1).toUInt32 &&& Int32.toUInt32 31)).toInt32) &&& (1431655765 : Int32))))]) (n := 10) hC dJ6_bitCount_0f7a4_9 rfl (by decide) rfl rfl ?_
  refine z_iload_n (n := 11) hC dJ6_bitCount_0f7a4_10 rfl 0 rfl rfl ?_
  refine z_ldcw (v := 858993459) (n := 14) hC q648 dJ6_bitCount_0f7a4_11 rfl ?_
  refine z_iand (v := ((nI (mkF lf n)) - ((((nI (mkF lf n)).toUInt32 >>> ((nI 1).toUInt32 &&& Int32.toUInt32 31)).toInt32) &&& (1431655765 : Int32))) &&& (858993459 : Int32)) (n := 15) hC dJ6_bitCount_0f7a4_14 rfl rfl ?_
  refine z_iload_n (n := 16) hC dJ6_bitCount_0f7a4_15 rfl 0 rfl rfl ?_
  refine z_iconst (v := nI 2) (n := 17) hC dJ6_bitCount_0f7a4_16 (by decide) rfl ?_
  refine z_iushr (v := (((nI (mkF lf n)) - ((((nI (mkF lf n)).toUInt32 >>> ((nI 1).toUInt32 &&& Int32.toUInt32 31)).toInt32) &&& (1431655765 : Int32))).toUInt32 >>> ((nI 2).toUInt32 &&& Int32.toUInt32 31)).toInt32) (n := 18) hC dJ6_bitCount_0f7a4_17 rfl rfl ?_
  refine z_ldcw (v := 858993459) (n := 21) hC q648 dJ6_bitCount_0f7a4_18 rfl ?_
  refine z_iand (v := ((((nI (mkF lf n)) - ((((nI (mkF lf n)).toUInt32 >>> ((nI 1).toUInt32 &&& Int32.toUInt32 31)).toInt32) &&& (1431655765 : Int32))).toUInt32 >>> ((nI 2).toUInt32 &&& Int32.toUInt32 31)).toInt32) &&& (858993459 : Int32)) (n := 22) hC dJ6_bitCount_0f7a4_21 rfl rfl ?_
  refine z_iadd (v := (((nI (mkF lf n)) - ((((nI (mkF lf n)).toUInt32 >>> ((nI 1).toUInt32 &&& Int32.toUInt32 31)).toInt32) &&& (1431655765 : Int32))) &&& (858993459 : Int32)) + (((((nI (mkF lf n)) - ((((nI (mkF lf n)).toUInt32 >>> ((nI 1).toUInt32 &&& Int32.toUInt32 31)).toInt32) &&& (1431655765 : Int32))).toUInt32 >>> ((nI 2).toUInt32 &&& Int32.toUInt32 31)).toInt32) &&& (858993459 : Int32))) (n := 23) hC dJ6_bitCount_0f7a4_22 rfl rfl ?_
  refine z_istore_n (lv' := [(0, .int ((((nI (mkF lf n)) - ((((nI (mkF lf n)).toUInt32 >>> ((nI 1).toUInt32 &&& Int32.toUInt32 31)).toInt32) &&& (1431655765 : Int32))) &&& (858993459 : Int32)) + (((((nI (mkF lf n)) - ((((nI (mkF lf n)).toUInt32 >>> ((nI 1).toUInt32 &&& Int32.toUInt32 31)).toInt32) &&& (1431655765 : Int32))).toUInt32 >>> ((nI 2).toUInt32 &&& Int32.toUInt32 31)).toInt32) &&& (858993459 : Int32))))]) (n := 24) hC dJ6_bitCount_0f7a4_23 rfl (by decide) rfl rfl ?_
  refine z_iload_n (n := 25) hC dJ6_bitCount_0f7a4_24 rfl 0 rfl rfl ?_
  refine z_iload_n (n := 26) hC dJ6_bitCount_0f7a4_25 rfl 0 rfl rfl ?_
  refine z_iconst (v := nI 4) (n := 27) hC dJ6_bitCount_0f7a4_26 (by decide) rfl ?_
  refine z_iushr (v := (((((nI (mkF lf n)) - ((((nI (mkF lf n)).toUInt32 >>> ((nI 1).toUInt32 &&& Int32.toUInt32 31)).toInt32) &&& (1431655765 : Int32))) &&& (858993459 : Int32)) + (((((nI (mkF lf n)) - ((((nI (mkF lf n)).toUInt32 >>> ((nI 1).toUInt32 &&& Int32.toUInt32 31)).toInt32) &&& (1431655765 : Int32))).toUInt32 >>> ((nI 2).toUInt32 &&& Int32.toUInt32 31)).toInt32) &&& (858993459 : Int32))).toUInt32 >>> ((nI 4).toUInt32 &&& Int32.toUInt32 31)).toInt32) (n := 28) hC dJ6_bitCount_0f7a4_27 rfl rfl ?_
  refine z_iadd (v := ((((nI (mkF lf n)) - ((((nI (mkF lf n)).toUInt32 >>> ((nI 1).toUInt32 &&& Int32.toUInt32 31)).toInt32) &&& (1431655765 : Int32))) &&& (858993459 : Int32)) + (((((nI (mkF lf n)) - ((((nI (mkF lf n)).toUInt32 >>> ((nI 1).toUInt32 &&& Int32.toUInt32 31)).toInt32) &&& (1431655765 : Int32))).toUInt32 >>> ((nI 2).toUInt32 &&& Int32.toUInt32 31)).toInt32) &&& (858993459 : Int32))) + ((((((nI (mkF lf n)) - ((((nI (mkF lf n)).toUInt32 >>> ((nI 1).toUInt32 &&& Int32.toUInt32 31)).toInt32) &&& (1431655765 : Int32))) &&& (858993459 : Int32)) + (((((nI (mkF lf n)) - ((((nI (mkF lf n)).toUInt32 >>> ((nI 1).toUInt32 &&& Int32.toUInt32 31)).toInt32) &&& (1431655765 : Int32))).toUInt32 >>> ((nI 2).toUInt32 &&& Int32.toUInt32 31)).toInt32) &&& (858993459 : Int32))).toUInt32 >>> ((nI 4).toUInt32 &&& Int32.toUInt32 31)).toInt32)) (n := 29) hC dJ6_bitCount_0f7a4_28 rfl rfl ?_
  refine z_ldcw (v := 252645135) (n := 32) hC q649 dJ6_bitCount_0f7a4_29 rfl ?_
  refine z_iand (v := (((((nI (mkF lf n)) - ((((nI (mkF lf n)).toUInt32 >>> ((nI 1).toUInt32 &&& Int32.toUInt32 31)).toInt32) &&& (1431655765 : Int32))) &&& (858993459 : Int32)) + (((((nI (mkF lf n)) - ((((nI (mkF lf n)).toUInt32 >>> ((nI 1).toUInt32 &&& Int32.toUInt32 31)).toInt32) &&& (1431655765 : Int32))).toUInt32 >>> ((nI 2).toUInt32 &&& Int32.toUInt32 31)).toInt32) &&& (858993459 : Int32))) + ((((((nI (mkF lf n)) - ((((nI (mkF lf n)).toUInt32 >>> ((nI 1).toUInt32 &&& Int32.toUInt32 31)).toInt32) &&& (1431655765 : Int32))) &&& (858993459 : Int32)) + (((((nI (mkF lf n)) - ((((nI (mkF lf n)).toUInt32 >>> ((nI 1).toUInt32 &&& Int32.toUInt32 31)).toInt32) &&& (1431655765 : Int32))).toUInt32 >>> ((nI 2).toUInt32 &&& Int32.toUInt32 31)).toInt32) &&& (858993459 : Int32))).toUInt32 >>> ((nI 4).toUInt32 &&& Int32.toUInt32 31)).toInt32)) &&& (252645135 : Int32)) (n := 33) hC dJ6_bitCount_0f7a4_32 rfl rfl ?_
  refine z_istore_n (lv' := [(0, .int ((((((nI (mkF lf n)) - ((((nI (mkF lf n)).toUInt32 >>> ((nI 1).toUInt32 &&& Int32.toUInt32 31)).toInt32) &&& (1431655765 : Int32))) &&& (858993459 : Int32)) + (((((nI (mkF lf n)) - ((((nI (mkF lf n)).toUInt32 >>> ((nI 1).toUInt32 &&& Int32.toUInt32 31)).toInt32) &&& (1431655765 : Int32))).toUInt32 >>> ((nI 2).toUInt32 &&& Int32.toUInt32 31)).toInt32) &&& (858993459 : Int32))) + ((((((nI (mkF lf n)) - ((((nI (mkF lf n)).toUInt32 >>> ((nI 1).toUInt32 &&& Int32.toUInt32 31)).toInt32) &&& (1431655765 : Int32))) &&& (858993459 : Int32)) + (((((nI (mkF lf n)) - ((((nI (mkF lf n)).toUInt32 >>> ((nI 1).toUInt32 &&& Int32.toUInt32 31)).toInt32) &&& (1431655765 : Int32))).toUInt32 >>> ((nI 2).toUInt32 &&& Int32.toUInt32 31)).toInt32) &&& (858993459 : Int32))).toUInt32 >>> ((nI 4).toUInt32 &&& Int32.toUInt32 31)).toInt32)) &&& (252645135 : Int32)))]) (n := 34) hC dJ6_bitCount_0f7a4_33 rfl (by decide) rfl rfl ?_
  refine z_iload_n (n := 35) hC dJ6_bitCount_0f7a4_34 rfl 0 rfl rfl ?_
  refine z_iload_n (n := 36) hC dJ6_bitCount_0f7a4_35 rfl 0 rfl rfl ?_
  refine z_bipush (v := nI 8) (n := 38) hC dJ6_bitCount_0f7a4_36 (by decide) rfl ?_
  refine z_iushr (v := (((((((nI (mkF lf n)) - ((((nI (mkF lf n)).toUInt32 >>> ((nI 1).toUInt32 &&& Int32.toUInt32 31)).toInt32) &&& (1431655765 : Int32))) &&& (858993459 : Int32)) + (((((nI (mkF lf n)) - ((((nI (mkF lf n)).toUInt32 >>> ((nI 1).toUInt32 &&& Int32.toUInt32 31)).toInt32) &&& (1431655765 : Int32))).toUInt32 >>> ((nI 2).toUInt32 &&& Int32.toUInt32 31)).toInt32) &&& (858993459 : Int32))) + ((((((nI (mkF lf n)) - ((((nI (mkF lf n)).toUInt32 >>> ((nI 1).toUInt32 &&& Int32.toUInt32 31)).toInt32) &&& (1431655765 : Int32))) &&& (858993459 : Int32)) + (((((nI (mkF lf n)) - ((((nI (mkF lf n)).toUInt32 >>> ((nI 1).toUInt32 &&& Int32.toUInt32 31)).toInt32) &&& (1431655765 : Int32))).toUInt32 >>> ((nI 2).toUInt32 &&& Int32.toUInt32 31)).toInt32) &&& (858993459 : Int32))).toUInt32 >>> ((nI 4).toUInt32 &&& Int32.toUInt32 31)).toInt32)) &&& (252645135 : Int32)).toUInt32 >>> ((nI 8).toUInt32 &&& Int32.toUInt32 31)).toInt32) (n := 39) hC dJ6_bitCount_0f7a4_38 rfl rfl ?_
  refine z_iadd (v := ((((((nI (mkF lf n)) - ((((nI (mkF lf n)).toUInt32 >>> ((nI 1).toUInt32 &&& Int32.toUInt32 31)).toInt32) &&& (1431655765 : Int32))) &&& (858993459 : Int32)) + (((((nI (mkF lf n)) - ((((nI (mkF lf n)).toUInt32 >>> ((nI 1).toUInt32 &&& Int32.toUInt32 31)).toInt32) &&& (1431655765 : Int32))).toUInt32 >>> ((nI 2).toUInt32 &&& Int32.toUInt32 31)).toInt32) &&& (858993459 : Int32))) + ((((((nI (mkF lf n)) - ((((nI (mkF lf n)).toUInt32 >>> ((nI 1).toUInt32 &&& Int32.toUInt32 31)).toInt32) &&& (1431655765 : Int32))) &&& (858993459 : Int32)) + (((((nI (mkF lf n)) - ((((nI (mkF lf n)).toUInt32 >>> ((nI 1).toUInt32 &&& Int32.toUInt32 31)).toInt32) &&& (1431655765 : Int32))).toUInt32 >>> ((nI 2).toUInt32 &&& Int32.toUInt32 31)).toInt32) &&& (858993459 : Int32))).toUInt32 >>> ((nI 4).toUInt32 &&& Int32.toUInt32 31)).toInt32)) &&& (252645135 : Int32)) + ((((((((nI (mkF lf n)) - ((((nI (mkF lf n)).toUInt32 >>> ((nI 1).toUInt32 &&& Int32.toUInt32 31)).toInt32) &&& (1431655765 : Int32))) &&& (858993459 : Int32)) + (((((nI (mkF lf n)) - ((((nI (mkF lf n)).toUInt32 >>> ((nI 1).toUInt32 &&& Int32.toUInt32 31)).toInt32) &&& (1431655765 : Int32))).toUInt32 >>> ((nI 2).toUInt32 &&& Int32.toUInt32 31)).toInt32) &&& (858993459 : Int32))) + ((((((nI (mkF lf n)) - ((((nI (mkF lf n)).toUInt32 >>> ((nI 1).toUInt32 &&& Int32.toUInt32 31)).toInt32) &&& (1431655765 : Int32))) &&& (858993459 : Int32)) + (((((nI (mkF lf n)) - ((((nI (mkF lf n)).toUInt32 >>> ((nI 1).toUInt32 &&& Int32.toUInt32 31)).toInt32) &&& (1431655765 : Int32))).toUInt32 >>> ((nI 2).toUInt32 &&& Int32.toUInt32 31)).toInt32) &&& (858993459 : Int32))).toUInt32 >>> ((nI 4).toUInt32 &&& Int32.toUInt32 31)).toInt32)) &&& (252645135 : Int32)).toUInt32 >>> ((nI 8).toUInt32 &&& Int32.toUInt32 31)).toInt32)) (n := 40) hC dJ6_bitCount_0f7a4_39 rfl rfl ?_
  refine z_istore_n (lv' := [(0, .int (((((((nI (mkF lf n)) - ((((nI (mkF lf n)).toUInt32 >>> ((nI 1).toUInt32 &&& Int32.toUInt32 31)).toInt32) &&& (1431655765 : Int32))) &&& (858993459 : Int32)) + (((((nI (mkF lf n)) - ((((nI (mkF lf n)).toUInt32 >>> ((nI 1).toUInt32 &&& Int32.toUInt32 31)).toInt32) &&& (1431655765 : Int32))).toUInt32 >>> ((nI 2).toUInt32 &&& Int32.toUInt32 31)).toInt32) &&& (858993459 : Int32))) + ((((((nI (mkF lf n)) - ((((nI (mkF lf n)).toUInt32 >>> ((nI 1).toUInt32 &&& Int32.toUInt32 31)).toInt32) &&& (1431655765 : Int32))) &&& (858993459 : Int32)) + (((((nI (mkF lf n)) - ((((nI (mkF lf n)).toUInt32 >>> ((nI 1).toUInt32 &&& Int32.toUInt32 31)).toInt32) &&& (1431655765 : Int32))).toUInt32 >>> ((nI 2).toUInt32 &&& Int32.toUInt32 31)).toInt32) &&& (858993459 : Int32))).toUInt32 >>> ((nI 4).toUInt32 &&& Int32.toUInt32 31)).toInt32)) &&& (252645135 : Int32)) + ((((((((nI (mkF lf n)) - ((((nI (mkF lf n)).toUInt32 >>> ((nI 1).toUInt32 &&& Int32.toUInt32 31)).toInt32) &&& (1431655765 : Int32))) &&& (858993459 : Int32)) + (((((nI (mkF lf n)) - ((((nI (mkF lf n)).toUInt32 >>> ((nI 1).toUInt32 &&& Int32.toUInt32 31)).toInt32) &&& (1431655765 : Int32))).toUInt32 >>> ((nI 2).toUInt32 &&& Int32.toUInt32 31)).toInt32) &&& (858993459 : Int32))) + ((((((nI (mkF lf n)) - ((((nI (mkF lf n)).toUInt32 >>> ((nI 1).toUInt32 &&& Int32.toUInt32 31)).toInt32) &&& (1431655765 : Int32))) &&& (858993459 : Int32)) + (((((nI (mkF lf n)) - ((((nI (mkF lf n)).toUInt32 >>> ((nI 1).toUInt32 &&& Int32.toUInt32 31)).toInt32) &&& (1431655765 : Int32))).toUInt32 >>> ((nI 2).toUInt32 &&& Int32.toUInt32 31)).toInt32) &&& (858993459 : Int32))).toUInt32 >>> ((nI 4).toUInt32 &&& Int32.toUInt32 31)).toInt32)) &&& (252645135 : Int32)).toUInt32 >>> ((nI 8).toUInt32 &&& Int32.toUInt32 31)).toInt32)))]) (n := 41) hC dJ6_bitCount_0f7a4_40 rfl (by decide) rfl rfl ?_
  refine z_iload_n (n := 42) hC dJ6_bitCount_0f7a4_41 rfl 0 rfl rfl ?_
  refine z_iload_n (n := 43) hC dJ6_bitCount_0f7a4_42 rfl 0 rfl rfl ?_
  refine z_bipush (v := nI 16) (n := 45) hC dJ6_bitCount_0f7a4_43 (by decide) rfl ?_
  refine z_iushr (v := ((((((((nI (mkF lf n)) - ((((nI (mkF lf n)).toUInt32 >>> ((nI 1).toUInt32 &&& Int32.toUInt32 31)).toInt32) &&& (1431655765 : Int32))) &&& (858993459 : Int32)) + (((((nI (mkF lf n)) - ((((nI (mkF lf n)).toUInt32 >>> ((nI 1).toUInt32 &&& Int32.toUInt32 31)).toInt32) &&& (1431655765 : Int32))).toUInt32 >>> ((nI 2).toUInt32 &&& Int32.toUInt32 31)).toInt32) &&& (858993459 : Int32))) + ((((((nI (mkF lf n)) - ((((nI (mkF lf n)).toUInt32 >>> ((nI 1).toUInt32 &&& Int32.toUInt32 31)).toInt32) &&& (1431655765 : Int32))) &&& (858993459 : Int32)) + (((((nI (mkF lf n)) - ((((nI (mkF lf n)).toUInt32 >>> ((nI 1).toUInt32 &&& Int32.toUInt32 31)).toInt32) &&& (1431655765 : Int32))).toUInt32 >>> ((nI 2).toUInt32 &&& Int32.toUInt32 31)).toInt32) &&& (858993459 : Int32))).toUInt32 >>> ((nI 4).toUInt32 &&& Int32.toUInt32 31)).toInt32)) &&& (252645135 : Int32)) + ((((((((nI (mkF lf n)) - ((((nI (mkF lf n)).toUInt32 >>> ((nI 1).toUInt32 &&& Int32.toUInt32 31)).toInt32) &&& (1431655765 : Int32))) &&& (858993459 : Int32)) + (((((nI (mkF lf n)) - ((((nI (mkF lf n)).toUInt32 >>> ((nI 1).toUInt32 &&& Int32.toUInt32 31)).toInt32) &&& (1431655765 : Int32))).toUInt32 >>> ((nI 2).toUInt32 &&& Int32.toUInt32 31)).toInt32) &&& (858993459 : Int32))) + ((((((nI (mkF lf n)) - ((((nI (mkF lf n)).toUInt32 >>> ((nI 1).toUInt32 &&& Int32.toUInt32 31)).toInt32) &&& (1431655765 : Int32))) &&& (858993459 : Int32)) + (((((nI (mkF lf n)) - ((((nI (mkF lf n)).toUInt32 >>> ((nI 1).toUInt32 &&& Int32.toUInt32 31)).toInt32) &&& (1431655765 : Int32))).toUInt32 >>> ((nI 2).toUInt32 &&& Int32.toUInt32 31)).toInt32) &&& (858993459 : Int32))).toUInt32 >>> ((nI 4).toUInt32 &&& Int32.toUInt32 31)).toInt32)) &&& (252645135 : Int32)).toUInt32 >>> ((nI 8).toUInt32 &&& Int32.toUInt32 31)).toInt32)).toUInt32 >>> ((nI 16).toUInt32 &&& Int32.toUInt32 31)).toInt32) (n := 46) hC dJ6_bitCount_0f7a4_45 rfl rfl ?_
  refine z_iadd (v := (((((((nI (mkF lf n)) - ((((nI (mkF lf n)).toUInt32 >>> ((nI 1).toUInt32 &&& Int32.toUInt32 31)).toInt32) &&& (1431655765 : Int32))) &&& (858993459 : Int32)) + (((((nI (mkF lf n)) - ((((nI (mkF lf n)).toUInt32 >>> ((nI 1).toUInt32 &&& Int32.toUInt32 31)).toInt32) &&& (1431655765 : Int32))).toUInt32 >>> ((nI 2).toUInt32 &&& Int32.toUInt32 31)).toInt32) &&& (858993459 : Int32))) + ((((((nI (mkF lf n)) - ((((nI (mkF lf n)).toUInt32 >>> ((nI 1).toUInt32 &&& Int32.toUInt32 31)).toInt32) &&& (1431655765 : Int32))) &&& (858993459 : Int32)) + (((((nI (mkF lf n)) - ((((nI (mkF lf n)).toUInt32 >>> ((nI 1).toUInt32 &&& Int32.toUInt32 31)).toInt32) &&& (1431655765 : Int32))).toUInt32 >>> ((nI 2).toUInt32 &&& Int32.toUInt32 31)).toInt32) &&& (858993459 : Int32))).toUInt32 >>> ((nI 4).toUInt32 &&& Int32.toUInt32 31)).toInt32)) &&& (252645135 : Int32)) + ((((((((nI (mkF lf n)) - ((((nI (mkF lf n)).toUInt32 >>> ((nI 1).toUInt32 &&& Int32.toUInt32 31)).toInt32) &&& (1431655765 : Int32))) &&& (858993459 : Int32)) + (((((nI (mkF lf n)) - ((((nI (mkF lf n)).toUInt32 >>> ((nI 1).toUInt32 &&& Int32.toUInt32 31)).toInt32) &&& (1431655765 : Int32))).toUInt32 >>> ((nI 2).toUInt32 &&& Int32.toUInt32 31)).toInt32) &&& (858993459 : Int32))) + ((((((nI (mkF lf n)) - ((((nI (mkF lf n)).toUInt32 >>> ((nI 1).toUInt32 &&& Int32.toUInt32 31)).toInt32) &&& (1431655765 : Int32))) &&& (858993459 : Int32)) + (((((nI (mkF lf n)) - ((((nI (mkF lf n)).toUInt32 >>> ((nI 1).toUInt32 &&& Int32.toUInt32 31)).toInt32) &&& (1431655765 : Int32))).toUInt32 >>> ((nI 2).toUInt32 &&& Int32.toUInt32 31)).toInt32) &&& (858993459 : Int32))).toUInt32 >>> ((nI 4).toUInt32 &&& Int32.toUInt32 31)).toInt32)) &&& (252645135 : Int32)).toUInt32 >>> ((nI 8).toUInt32 &&& Int32.toUInt32 31)).toInt32)) + (((((((((nI (mkF lf n)) - ((((nI (mkF lf n)).toUInt32 >>> ((nI 1).toUInt32 &&& Int32.toUInt32 31)).toInt32) &&& (1431655765 : Int32))) &&& (858993459 : Int32)) + (((((nI (mkF lf n)) - ((((nI (mkF lf n)).toUInt32 >>> ((nI 1).toUInt32 &&& Int32.toUInt32 31)).toInt32) &&& (1431655765 : Int32))).toUInt32 >>> ((nI 2).toUInt32 &&& Int32.toUInt32 31)).toInt32) &&& (858993459 : Int32))) + ((((((nI (mkF lf n)) - ((((nI (mkF lf n)).toUInt32 >>> ((nI 1).toUInt32 &&& Int32.toUInt32 31)).toInt32) &&& (1431655765 : Int32))) &&& (858993459 : Int32)) + (((((nI (mkF lf n)) - ((((nI (mkF lf n)).toUInt32 >>> ((nI 1).toUInt32 &&& Int32.toUInt32 31)).toInt32) &&& (1431655765 : Int32))).toUInt32 >>> ((nI 2).toUInt32 &&& Int32.toUInt32 31)).toInt32) &&& (858993459 : Int32))).toUInt32 >>> ((nI 4).toUInt32 &&& Int32.toUInt32 31)).toInt32)) &&& (252645135 : Int32)) + ((((((((nI (mkF lf n)) - ((((nI (mkF lf n)).toUInt32 >>> ((nI 1).toUInt32 &&& Int32.toUInt32 31)).toInt32) &&& (1431655765 : Int32))) &&& (858993459 : Int32)) + (((((nI (mkF lf n)) - ((((nI (mkF lf n)).toUInt32 >>> ((nI 1).toUInt32 &&& Int32.toUInt32 31)).toInt32) &&& (1431655765 : Int32))).toUInt32 >>> ((nI 2).toUInt32 &&& Int32.toUInt32 31)).toInt32) &&& (858993459 : Int32))) + ((((((nI (mkF lf n)) - ((((nI (mkF lf n)).toUInt32 >>> ((nI 1).toUInt32 &&& Int32.toUInt32 31)).toInt32) &&& (1431655765 : Int32))) &&& (858993459 : Int32)) + (((((nI (mkF lf n)) - ((((nI (mkF lf n)).toUInt32 >>> ((nI 1).toUInt32 &&& Int32.toUInt32 31)).toInt32) &&& (1431655765 : Int32))).toUInt32 >>> ((nI 2).toUInt32 &&& Int32.toUInt32 31)).toInt32) &&& (858993459 : Int32))).toUInt32 >>> ((nI 4).toUInt32 &&& Int32.toUInt32 31)).toInt32)) &&& (252645135 : Int32)).toUInt32 >>> ((nI 8).toUInt32 &&& Int32.toUInt32 31)).toInt32)).toUInt32 >>> ((nI 16).toUInt32 &&& Int32.toUInt32 31)).toInt32)) (n := 47) hC dJ6_bitCount_0f7a4_46 rfl rfl ?_
  refine z_istore_n (lv' := [(0, .int ((((((((nI (mkF lf n)) - ((((nI (mkF lf n)).toUInt32 >>> ((nI 1).toUInt32 &&& Int32.toUInt32 31)).toInt32) &&& (1431655765 : Int32))) &&& (858993459 : Int32)) + (((((nI (mkF lf n)) - ((((nI (mkF lf n)).toUInt32 >>> ((nI 1).toUInt32 &&& Int32.toUInt32 31)).toInt32) &&& (1431655765 : Int32))).toUInt32 >>> ((nI 2).toUInt32 &&& Int32.toUInt32 31)).toInt32) &&& (858993459 : Int32))) + ((((((nI (mkF lf n)) - ((((nI (mkF lf n)).toUInt32 >>> ((nI 1).toUInt32 &&& Int32.toUInt32 31)).toInt32) &&& (1431655765 : Int32))) &&& (858993459 : Int32)) + (((((nI (mkF lf n)) - ((((nI (mkF lf n)).toUInt32 >>> ((nI 1).toUInt32 &&& Int32.toUInt32 31)).toInt32) &&& (1431655765 : Int32))).toUInt32 >>> ((nI 2).toUInt32 &&& Int32.toUInt32 31)).toInt32) &&& (858993459 : Int32))).toUInt32 >>> ((nI 4).toUInt32 &&& Int32.toUInt32 31)).toInt32)) &&& (252645135 : Int32)) + ((((((((nI (mkF lf n)) - ((((nI (mkF lf n)).toUInt32 >>> ((nI 1).toUInt32 &&& Int32.toUInt32 31)).toInt32) &&& (1431655765 : Int32))) &&& (858993459 : Int32)) + (((((nI (mkF lf n)) - ((((nI (mkF lf n)).toUInt32 >>> ((nI 1).toUInt32 &&& Int32.toUInt32 31)).toInt32) &&& (1431655765 : Int32))).toUInt32 >>> ((nI 2).toUInt32 &&& Int32.toUInt32 31)).toInt32) &&& (858993459 : Int32))) + ((((((nI (mkF lf n)) - ((((nI (mkF lf n)).toUInt32 >>> ((nI 1).toUInt32 &&& Int32.toUInt32 31)).toInt32) &&& (1431655765 : Int32))) &&& (858993459 : Int32)) + (((((nI (mkF lf n)) - ((((nI (mkF lf n)).toUInt32 >>> ((nI 1).toUInt32 &&& Int32.toUInt32 31)).toInt32) &&& (1431655765 : Int32))).toUInt32 >>> ((nI 2).toUInt32 &&& Int32.toUInt32 31)).toInt32) &&& (858993459 : Int32))).toUInt32 >>> ((nI 4).toUInt32 &&& Int32.toUInt32 31)).toInt32)) &&& (252645135 : Int32)).toUInt32 >>> ((nI 8).toUInt32 &&& Int32.toUInt32 31)).toInt32)) + (((((((((nI (mkF lf n)) - ((((nI (mkF lf n)).toUInt32 >>> ((nI 1).toUInt32 &&& Int32.toUInt32 31)).toInt32) &&& (1431655765 : Int32))) &&& (858993459 : Int32)) + (((((nI (mkF lf n)) - ((((nI (mkF lf n)).toUInt32 >>> ((nI 1).toUInt32 &&& Int32.toUInt32 31)).toInt32) &&& (1431655765 : Int32))).toUInt32 >>> ((nI 2).toUInt32 &&& Int32.toUInt32 31)).toInt32) &&& (858993459 : Int32))) + ((((((nI (mkF lf n)) - ((((nI (mkF lf n)).toUInt32 >>> ((nI 1).toUInt32 &&& Int32.toUInt32 31)).toInt32) &&& (1431655765 : Int32))) &&& (858993459 : Int32)) + (((((nI (mkF lf n)) - ((((nI (mkF lf n)).toUInt32 >>> ((nI 1).toUInt32 &&& Int32.toUInt32 31)).toInt32) &&& (1431655765 : Int32))).toUInt32 >>> ((nI 2).toUInt32 &&& Int32.toUInt32 31)).toInt32) &&& (858993459 : Int32))).toUInt32 >>> ((nI 4).toUInt32 &&& Int32.toUInt32 31)).toInt32)) &&& (252645135 : Int32)) + ((((((((nI (mkF lf n)) - ((((nI (mkF lf n)).toUInt32 >>> ((nI 1).toUInt32 &&& Int32.toUInt32 31)).toInt32) &&& (1431655765 : Int32))) &&& (858993459 : Int32)) + (((((nI (mkF lf n)) - ((((nI (mkF lf n)).toUInt32 >>> ((nI 1).toUInt32 &&& Int32.toUInt32 31)).toInt32) &&& (1431655765 : Int32))).toUInt32 >>> ((nI 2).toUInt32 &&& Int32.toUInt32 31)).toInt32) &&& (858993459 : Int32))) + ((((((nI (mkF lf n)) - ((((nI (mkF lf n)).toUInt32 >>> ((nI 1).toUInt32 &&& Int32.toUInt32 31)).toInt32) &&& (1431655765 : Int32))) &&& (858993459 : Int32)) + (((((nI (mkF lf n)) - ((((nI (mkF lf n)).toUInt32 >>> ((nI 1).toUInt32 &&& Int32.toUInt32 31)).toInt32) &&& (1431655765 : Int32))).toUInt32 >>> ((nI 2).toUInt32 &&& Int32.toUInt32 31)).toInt32) &&& (858993459 : Int32))).toUInt32 >>> ((nI 4).toUInt32 &&& Int32.toUInt32 31)).toInt32)) &&& (252645135 : Int32)).toUInt32 >>> ((nI 8).toUInt32 &&& Int32.toUInt32 31)).toInt32)).toUInt32 >>> ((nI 16).toUInt32 &&& Int32.toUInt32 31)).toInt32)))]) (n := 48) hC dJ6_bitCount_0f7a4_47 rfl (by decide) rfl rfl ?_
  refine z_iload_n (n := 49) hC dJ6_bitCount_0f7a4_48 rfl 0 rfl rfl ?_
  refine z_bipush (v := nI 63) (n := 51) hC dJ6_bitCount_0f7a4_49 (by decide) rfl ?_
  refine z_iand (v := ((((((((nI (mkF lf n)) - ((((nI (mkF lf n)).toUInt32 >>> ((nI 1).toUInt32 &&& Int32.toUInt32 31)).toInt32) &&& (1431655765 : Int32))) &&& (858993459 : Int32)) + (((((nI (mkF lf n)) - ((((nI (mkF lf n)).toUInt32 >>> ((nI 1).toUInt32 &&& Int32.toUInt32 31)).toInt32) &&& (1431655765 : Int32))).toUInt32 >>> ((nI 2).toUInt32 &&& Int32.toUInt32 31)).toInt32) &&& (858993459 : Int32))) + ((((((nI (mkF lf n)) - ((((nI (mkF lf n)).toUInt32 >>> ((nI 1).toUInt32 &&& Int32.toUInt32 31)).toInt32) &&& (1431655765 : Int32))) &&& (858993459 : Int32)) + (((((nI (mkF lf n)) - ((((nI (mkF lf n)).toUInt32 >>> ((nI 1).toUInt32 &&& Int32.toUInt32 31)).toInt32) &&& (1431655765 : Int32))).toUInt32 >>> ((nI 2).toUInt32 &&& Int32.toUInt32 31)).toInt32) &&& (858993459 : Int32))).toUInt32 >>> ((nI 4).toUInt32 &&& Int32.toUInt32 31)).toInt32)) &&& (252645135 : Int32)) + ((((((((nI (mkF lf n)) - ((((nI (mkF lf n)).toUInt32 >>> ((nI 1).toUInt32 &&& Int32.toUInt32 31)).toInt32) &&& (1431655765 : Int32))) &&& (858993459 : Int32)) + (((((nI (mkF lf n)) - ((((nI (mkF lf n)).toUInt32 >>> ((nI 1).toUInt32 &&& Int32.toUInt32 31)).toInt32) &&& (1431655765 : Int32))).toUInt32 >>> ((nI 2).toUInt32 &&& Int32.toUInt32 31)).toInt32) &&& (858993459 : Int32))) + ((((((nI (mkF lf n)) - ((((nI (mkF lf n)).toUInt32 >>> ((nI 1).toUInt32 &&& Int32.toUInt32 31)).toInt32) &&& (1431655765 : Int32))) &&& (858993459 : Int32)) + (((((nI (mkF lf n)) - ((((nI (mkF lf n)).toUInt32 >>> ((nI 1).toUInt32 &&& Int32.toUInt32 31)).toInt32) &&& (1431655765 : Int32))).toUInt32 >>> ((nI 2).toUInt32 &&& Int32.toUInt32 31)).toInt32) &&& (858993459 : Int32))).toUInt32 >>> ((nI 4).toUInt32 &&& Int32.toUInt32 31)).toInt32)) &&& (252645135 : Int32)).toUInt32 >>> ((nI 8).toUInt32 &&& Int32.toUInt32 31)).toInt32)) + (((((((((nI (mkF lf n)) - ((((nI (mkF lf n)).toUInt32 >>> ((nI 1).toUInt32 &&& Int32.toUInt32 31)).toInt32) &&& (1431655765 : Int32))) &&& (858993459 : Int32)) + (((((nI (mkF lf n)) - ((((nI (mkF lf n)).toUInt32 >>> ((nI 1).toUInt32 &&& Int32.toUInt32 31)).toInt32) &&& (1431655765 : Int32))).toUInt32 >>> ((nI 2).toUInt32 &&& Int32.toUInt32 31)).toInt32) &&& (858993459 : Int32))) + ((((((nI (mkF lf n)) - ((((nI (mkF lf n)).toUInt32 >>> ((nI 1).toUInt32 &&& Int32.toUInt32 31)).toInt32) &&& (1431655765 : Int32))) &&& (858993459 : Int32)) + (((((nI (mkF lf n)) - ((((nI (mkF lf n)).toUInt32 >>> ((nI 1).toUInt32 &&& Int32.toUInt32 31)).toInt32) &&& (1431655765 : Int32))).toUInt32 >>> ((nI 2).toUInt32 &&& Int32.toUInt32 31)).toInt32) &&& (858993459 : Int32))).toUInt32 >>> ((nI 4).toUInt32 &&& Int32.toUInt32 31)).toInt32)) &&& (252645135 : Int32)) + ((((((((nI (mkF lf n)) - ((((nI (mkF lf n)).toUInt32 >>> ((nI 1).toUInt32 &&& Int32.toUInt32 31)).toInt32) &&& (1431655765 : Int32))) &&& (858993459 : Int32)) + (((((nI (mkF lf n)) - ((((nI (mkF lf n)).toUInt32 >>> ((nI 1).toUInt32 &&& Int32.toUInt32 31)).toInt32) &&& (1431655765 : Int32))).toUInt32 >>> ((nI 2).toUInt32 &&& Int32.toUInt32 31)).toInt32) &&& (858993459 : Int32))) + ((((((nI (mkF lf n)) - ((((nI (mkF lf n)).toUInt32 >>> ((nI 1).toUInt32 &&& Int32.toUInt32 31)).toInt32) &&& (1431655765 : Int32))) &&& (858993459 : Int32)) + (((((nI (mkF lf n)) - ((((nI (mkF lf n)).toUInt32 >>> ((nI 1).toUInt32 &&& Int32.toUInt32 31)).toInt32) &&& (1431655765 : Int32))).toUInt32 >>> ((nI 2).toUInt32 &&& Int32.toUInt32 31)).toInt32) &&& (858993459 : Int32))).toUInt32 >>> ((nI 4).toUInt32 &&& Int32.toUInt32 31)).toInt32)) &&& (252645135 : Int32)).toUInt32 >>> ((nI 8).toUInt32 &&& Int32.toUInt32 31)).toInt32)).toUInt32 >>> ((nI 16).toUInt32 &&& Int32.toUInt32 31)).toInt32)) &&& (nI 63)) (n := 52) hC dJ6_bitCount_0f7a4_51 rfl rfl ?_
  refine z_iret hC hr hlocks () ?_ rfl dJ6_bitCount_0f7a4_52 (by omega) (by omega)
  rw [pc_ok lf hn]
  have key : ∀ m : Nat, m < 64 → ((((((((nI m) - ((((nI m).toUInt32 >>> ((nI 1).toUInt32 &&& Int32.toUInt32 31)).toInt32) &&& (1431655765 : Int32))) &&& (858993459 : Int32)) + (((((nI m) - ((((nI m).toUInt32 >>> ((nI 1).toUInt32 &&& Int32.toUInt32 31)).toInt32) &&& (1431655765 : Int32))).toUInt32 >>> ((nI 2).toUInt32 &&& Int32.toUInt32 31)).toInt32) &&& (858993459 : Int32))) + ((((((nI m) - ((((nI m).toUInt32 >>> ((nI 1).toUInt32 &&& Int32.toUInt32 31)).toInt32) &&& (1431655765 : Int32))) &&& (858993459 : Int32)) + (((((nI m) - ((((nI m).toUInt32 >>> ((nI 1).toUInt32 &&& Int32.toUInt32 31)).toInt32) &&& (1431655765 : Int32))).toUInt32 >>> ((nI 2).toUInt32 &&& Int32.toUInt32 31)).toInt32) &&& (858993459 : Int32))).toUInt32 >>> ((nI 4).toUInt32 &&& Int32.toUInt32 31)).toInt32)) &&& (252645135 : Int32)) + ((((((((nI m) - ((((nI m).toUInt32 >>> ((nI 1).toUInt32 &&& Int32.toUInt32 31)).toInt32) &&& (1431655765 : Int32))) &&& (858993459 : Int32)) + (((((nI m) - ((((nI m).toUInt32 >>> ((nI 1).toUInt32 &&& Int32.toUInt32 31)).toInt32) &&& (1431655765 : Int32))).toUInt32 >>> ((nI 2).toUInt32 &&& Int32.toUInt32 31)).toInt32) &&& (858993459 : Int32))) + ((((((nI m) - ((((nI m).toUInt32 >>> ((nI 1).toUInt32 &&& Int32.toUInt32 31)).toInt32) &&& (1431655765 : Int32))) &&& (858993459 : Int32)) + (((((nI m) - ((((nI m).toUInt32 >>> ((nI 1).toUInt32 &&& Int32.toUInt32 31)).toInt32) &&& (1431655765 : Int32))).toUInt32 >>> ((nI 2).toUInt32 &&& Int32.toUInt32 31)).toInt32) &&& (858993459 : Int32))).toUInt32 >>> ((nI 4).toUInt32 &&& Int32.toUInt32 31)).toInt32)) &&& (252645135 : Int32)).toUInt32 >>> ((nI 8).toUInt32 &&& Int32.toUInt32 31)).toInt32)) + (((((((((nI m) - ((((nI m).toUInt32 >>> ((nI 1).toUInt32 &&& Int32.toUInt32 31)).toInt32) &&& (1431655765 : Int32))) &&& (858993459 : Int32)) + (((((nI m) - ((((nI m).toUInt32 >>> ((nI 1).toUInt32 &&& Int32.toUInt32 31)).toInt32) &&& (1431655765 : Int32))).toUInt32 >>> ((nI 2).toUInt32 &&& Int32.toUInt32 31)).toInt32) &&& (858993459 : Int32))) + ((((((nI m) - ((((nI m).toUInt32 >>> ((nI 1).toUInt32 &&& Int32.toUInt32 31)).toInt32) &&& (1431655765 : Int32))) &&& (858993459 : Int32)) + (((((nI m) - ((((nI m).toUInt32 >>> ((nI 1).toUInt32 &&& Int32.toUInt32 31)).toInt32) &&& (1431655765 : Int32))).toUInt32 >>> ((nI 2).toUInt32 &&& Int32.toUInt32 31)).toInt32) &&& (858993459 : Int32))).toUInt32 >>> ((nI 4).toUInt32 &&& Int32.toUInt32 31)).toInt32)) &&& (252645135 : Int32)) + ((((((((nI m) - ((((nI m).toUInt32 >>> ((nI 1).toUInt32 &&& Int32.toUInt32 31)).toInt32) &&& (1431655765 : Int32))) &&& (858993459 : Int32)) + (((((nI m) - ((((nI m).toUInt32 >>> ((nI 1).toUInt32 &&& Int32.toUInt32 31)).toInt32) &&& (1431655765 : Int32))).toUInt32 >>> ((nI 2).toUInt32 &&& Int32.toUInt32 31)).toInt32) &&& (858993459 : Int32))) + ((((((nI m) - ((((nI m).toUInt32 >>> ((nI 1).toUInt32 &&& Int32.toUInt32 31)).toInt32) &&& (1431655765 : Int32))) &&& (858993459 : Int32)) + (((((nI m) - ((((nI m).toUInt32 >>> ((nI 1).toUInt32 &&& Int32.toUInt32 31)).toInt32) &&& (1431655765 : Int32))).toUInt32 >>> ((nI 2).toUInt32 &&& Int32.toUInt32 31)).toInt32) &&& (858993459 : Int32))).toUInt32 >>> ((nI 4).toUInt32 &&& Int32.toUInt32 31)).toInt32)) &&& (252645135 : Int32)).toUInt32 >>> ((nI 8).toUInt32 &&& Int32.toUInt32 31)).toInt32)).toUInt32 >>> ((nI 16).toUInt32 &&& Int32.toUInt32 31)).toInt32)) &&& (nI 63) = nI (pcF m) := by decide +kernel
  exact key _ (mkF_64 lf hn)

set_option maxRecDepth 100000 in
set_option maxHeartbeats 4000000 in
theorem k_J6_numberOfTrailingZeros_0f7a4 (l : Launch) (G : va_G) (cI cZ cJ : ClassId) (lf : Nat → Bool) (n : Nat) (hn : n ≤ 6) (hx : fiN lf n < n) : MI (Unit) l yJ6_numberOfTrailingZeros_0f7a4 cJ6_numberOfTrailingZeros_0f7a4 2 0 0 G (tY cI cZ cJ) [.int (nI (mkF lf n))] ([]) (fun zr _ => zr = nI (fiN lf n)) (fun _ => []) 0 0 := by
  refine MI_of (by decide) (Nat.le_of_ble_eq_true rfl) [(0, .int (nI (mkF lf n)))] rfl ?_
  intro p e s m below meth c hC hr hlocks hname
  have hC : Cx p s m _ c cJ6_numberOfTrailingZeros_0f7a4 2 RJ6 G (tY cI cZ cJ) _ := hC
  refine z_iload_n (n := 1) hC dJ6_numberOfTrailingZeros_0f7a4_0 rfl 0 rfl rfl ?_
  refine z_iconst (v := (-1)) (n := 2) hC dJ6_numberOfTrailingZeros_0f7a4_1 (by decide) rfl ?_
  refine z_ixor (v := (nI (mkF lf n)) ^^^ (-1)) (n := 3) hC dJ6_numberOfTrailingZeros_0f7a4_2 rfl rfl ?_
  refine z_iload_n (n := 4) hC dJ6_numberOfTrailingZeros_0f7a4_3 rfl 0 rfl rfl ?_
  refine z_iconst (v := nI 1) (n := 5) hC dJ6_numberOfTrailingZeros_0f7a4_4 (by decide) rfl ?_
  refine z_isub (v := (nI (mkF lf n)) - (nI 1)) (n := 6) hC dJ6_numberOfTrailingZeros_0f7a4_5 rfl rfl ?_
  refine z_iand (v := ((nI (mkF lf n)) ^^^ (-1)) &&& ((nI (mkF lf n)) - (nI 1))) (n := 7) hC dJ6_numberOfTrailingZeros_0f7a4_6 rfl rfl ?_
  refine z_istore_n (lv' := [(0, .int (((nI (mkF lf n)) ^^^ (-1)) &&& ((nI (mkF lf n)) - (nI 1))))]) (n := 8) hC dJ6_numberOfTrailingZeros_0f7a4_7 rfl (by decide) rfl rfl ?_
  refine z_iload_n (n := 9) hC dJ6_numberOfTrailingZeros_0f7a4_8 rfl 0 rfl rfl ?_
  refine z_if_gt (tgt := 17) (n := 12) hC dJ6_numberOfTrailingZeros_0f7a4_9 (by decide) rfl (fun c1 => ?_) (fun c1 => ?_)
  · refine z_iconst (v := nI 1) (n := 18) hC dJ6_numberOfTrailingZeros_0f7a4_17 (by decide) rfl ?_
    refine z_istore_n (lv' := [(1, .int (nI 1)), (0, .int (((nI (mkF lf n)) ^^^ (-1)) &&& ((nI (mkF lf n)) - (nI 1))))]) (n := 19) hC dJ6_numberOfTrailingZeros_0f7a4_18 rfl (by decide) rfl rfl ?_
    refine z_iload_n (n := 20) hC dJ6_numberOfTrailingZeros_0f7a4_19 rfl 1 rfl rfl ?_
    refine z_ldcw (v := 65536) (n := 23) hC q650 dJ6_numberOfTrailingZeros_0f7a4_20 rfl ?_
    refine z_icmp_le (tgt := 34) (n := 26) hC dJ6_numberOfTrailingZeros_0f7a4_23 (by decide) rfl (fun c2 => ?_) (fun c2 => ?_)
    · refine z_iload_n (n := 35) hC dJ6_numberOfTrailingZeros_0f7a4_34 rfl 1 rfl rfl ?_
      refine z_sipush (v := nI 256) (n := 38) hC dJ6_numberOfTrailingZeros_0f7a4_35 (by decide) rfl ?_
      refine z_icmp_le (tgt := 49) (n := 41) hC dJ6_numberOfTrailingZeros_0f7a4_38 (by decide) rfl (fun c3 => ?_) (fun c3 => ?_)
      · refine z_iload_n (n := 50) hC dJ6_numberOfTrailingZeros_0f7a4_49 rfl 1 rfl rfl ?_
        refine z_bipush (v := nI 16) (n := 52) hC dJ6_numberOfTrailingZeros_0f7a4_50 (by decide) rfl ?_
        refine z_icmp_le (tgt := 62) (n := 55) hC dJ6_numberOfTrailingZeros_0f7a4_52 (by decide) rfl (fun c4 => ?_) (fun c4 => ?_)
        · refine z_iload_n (n := 63) hC dJ6_numberOfTrailingZeros_0f7a4_62 rfl 1 rfl rfl ?_
          refine z_iconst (v := nI 4) (n := 64) hC dJ6_numberOfTrailingZeros_0f7a4_63 (by decide) rfl ?_
          refine z_icmp_le (tgt := 74) (n := 67) hC dJ6_numberOfTrailingZeros_0f7a4_64 (by decide) rfl (fun c5 => ?_) (fun c5 => ?_)
          · refine z_iload_n (n := 75) hC dJ6_numberOfTrailingZeros_0f7a4_74 rfl 0 rfl rfl ?_
            refine z_iload_n (n := 76) hC dJ6_numberOfTrailingZeros_0f7a4_75 rfl 1 rfl rfl ?_
            refine z_iconst (v := nI 1) (n := 77) hC dJ6_numberOfTrailingZeros_0f7a4_76 (by decide) rfl ?_
            refine z_iushr (v := ((((nI (mkF lf n)) ^^^ (-1)) &&& ((nI (mkF lf n)) - (nI 1))).toUInt32 >>> ((nI 1).toUInt32 &&& Int32.toUInt32 31)).toInt32) (n := 78) hC dJ6_numberOfTrailingZeros_0f7a4_77 rfl rfl ?_
            refine z_iadd (v := (nI 1) + (((((nI (mkF lf n)) ^^^ (-1)) &&& ((nI (mkF lf n)) - (nI 1))).toUInt32 >>> ((nI 1).toUInt32 &&& Int32.toUInt32 31)).toInt32)) (n := 79) hC dJ6_numberOfTrailingZeros_0f7a4_78 rfl rfl ?_
            refine z_iret hC hr hlocks () ?_ rfl dJ6_numberOfTrailingZeros_0f7a4_79 (by omega) (by omega)
            rw [tz_ok lf hn hx]
            have key : ∀ m : Nat, m < 64 → ((m ≠ 0 ∧ (0 < (((nI m) ^^^ (-1)) &&& ((nI m) - (nI 1)))) ∧ ((((nI m) ^^^ (-1)) &&& ((nI m) - (nI 1))) ≤ (65536 : Int32)) ∧ ((((nI m) ^^^ (-1)) &&& ((nI m) - (nI 1))) ≤ (nI 256)) ∧ ((((nI m) ^^^ (-1)) &&& ((nI m) - (nI 1))) ≤ (nI 16)) ∧ ((((nI m) ^^^ (-1)) &&& ((nI m) - (nI 1))) ≤ (nI 4))) → (nI 1) + (((((nI m) ^^^ (-1)) &&& ((nI m) - (nI 1))).toUInt32 >>> ((nI 1).toUInt32 &&& Int32.toUInt32 31)).toInt32) = nI (tzF m)) := by decide +kernel
            exact key _ (mkF_64 lf hn) ⟨mk_pos hx, c1, c2, c3, c4, c5⟩
          · refine z_iinc (k0 := 0) (v := nI 3) (lv' := [(1, .int (nI 3)), (0, .int (((nI (mkF lf n)) ^^^ (-1)) &&& ((nI (mkF lf n)) - (nI 1))))]) (n := 70) hC dJ6_numberOfTrailingZeros_0f7a4_67 rfl (nI_add 1 2) (by decide) rfl rfl ?_
            refine z_iload_n (n := 71) hC dJ6_numberOfTrailingZeros_0f7a4_70 rfl 1 rfl rfl ?_
            refine z_iconst (v := nI 2) (n := 72) hC dJ6_numberOfTrailingZeros_0f7a4_71 (by decide) rfl ?_
            refine z_iushr (v := ((((nI (mkF lf n)) ^^^ (-1)) &&& ((nI (mkF lf n)) - (nI 1))).toUInt32 >>> ((nI 2).toUInt32 &&& Int32.toUInt32 31)).toInt32) (n := 73) hC dJ6_numberOfTrailingZeros_0f7a4_72 rfl rfl ?_
            refine z_istore_n (lv' := [(0, .int (((((nI (mkF lf n)) ^^^ (-1)) &&& ((nI (mkF lf n)) - (nI 1))).toUInt32 >>> ((nI 2).toUInt32 &&& Int32.toUInt32 31)).toInt32)), (1, .int (nI 3))]) (n := 74) hC dJ6_numberOfTrailingZeros_0f7a4_73 rfl (by decide) rfl rfl ?_
            refine z_iload_n (n := 75) hC dJ6_numberOfTrailingZeros_0f7a4_74 rfl 1 rfl rfl ?_
            refine z_iload_n (n := 76) hC dJ6_numberOfTrailingZeros_0f7a4_75 rfl 0 rfl rfl ?_
            refine z_iconst (v := nI 1) (n := 77) hC dJ6_numberOfTrailingZeros_0f7a4_76 (by decide) rfl ?_
            refine z_iushr (v := ((((((nI (mkF lf n)) ^^^ (-1)) &&& ((nI (mkF lf n)) - (nI 1))).toUInt32 >>> ((nI 2).toUInt32 &&& Int32.toUInt32 31)).toInt32).toUInt32 >>> ((nI 1).toUInt32 &&& Int32.toUInt32 31)).toInt32) (n := 78) hC dJ6_numberOfTrailingZeros_0f7a4_77 rfl rfl ?_
            refine z_iadd (v := (nI 3) + (((((((nI (mkF lf n)) ^^^ (-1)) &&& ((nI (mkF lf n)) - (nI 1))).toUInt32 >>> ((nI 2).toUInt32 &&& Int32.toUInt32 31)).toInt32).toUInt32 >>> ((nI 1).toUInt32 &&& Int32.toUInt32 31)).toInt32)) (n := 79) hC dJ6_numberOfTrailingZeros_0f7a4_78 rfl rfl ?_
            refine z_iret hC hr hlocks () ?_ rfl dJ6_numberOfTrailingZeros_0f7a4_79 (by omega) (by omega)
            rw [tz_ok lf hn hx]
            have key : ∀ m : Nat, m < 64 → ((m ≠ 0 ∧ (0 < (((nI m) ^^^ (-1)) &&& ((nI m) - (nI 1)))) ∧ ((((nI m) ^^^ (-1)) &&& ((nI m) - (nI 1))) ≤ (65536 : Int32)) ∧ ((((nI m) ^^^ (-1)) &&& ((nI m) - (nI 1))) ≤ (nI 256)) ∧ ((((nI m) ^^^ (-1)) &&& ((nI m) - (nI 1))) ≤ (nI 16)) ∧ ¬ ((((nI m) ^^^ (-1)) &&& ((nI m) - (nI 1))) ≤ (nI 4))) → (nI 3) + (((((((nI m) ^^^ (-1)) &&& ((nI m) - (nI 1))).toUInt32 >>> ((nI 2).toUInt32 &&& Int32.toUInt32 31)).toInt32).toUInt32 >>> ((nI 1).toUInt32 &&& Int32.toUInt32 31)).toInt32) = nI (tzF m)) := by decide +kernel
            exact key _ (mkF_64 lf hn) ⟨mk_pos hx, c1, c2, c3, c4, c5⟩
        · refine z_iinc (k0 := 0) (v := nI 5) (lv' := [(1, .int (nI 5)), (0, .int (((nI (mkF lf n)) ^^^ (-1)) &&& ((nI (mkF lf n)) - (nI 1))))]) (n := 58) hC dJ6_numberOfTrailingZeros_0f7a4_55 rfl (nI_add 1 4) (by decide) rfl rfl ?_
          refine z_iload_n (n := 59) hC dJ6_numberOfTrailingZeros_0f7a4_58 rfl 1 rfl rfl ?_
          refine z_iconst (v := nI 4) (n := 60) hC dJ6_numberOfTrailingZeros_0f7a4_59 (by decide) rfl ?_
          refine z_iushr (v := ((((nI (mkF lf n)) ^^^ (-1)) &&& ((nI (mkF lf n)) - (nI 1))).toUInt32 >>> ((nI 4).toUInt32 &&& Int32.toUInt32 31)).toInt32) (n := 61) hC dJ6_numberOfTrailingZeros_0f7a4_60 rfl rfl ?_
          refine z_istore_n (lv' := [(0, .int (((((nI (mkF lf n)) ^^^ (-1)) &&& ((nI (mkF lf n)) - (nI 1))).toUInt32 >>> ((nI 4).toUInt32 &&& Int32.toUInt32 31)).toInt32)), (1, .int (nI 5))]) (n := 62) hC dJ6_numberOfTrailingZeros_0f7a4_61 rfl (by decide) rfl rfl ?_
          refine z_iload_n (n := 63) hC dJ6_numberOfTrailingZeros_0f7a4_62 rfl 0 rfl rfl ?_
          refine z_iconst (v := nI 4) (n := 64) hC dJ6_numberOfTrailingZeros_0f7a4_63 (by decide) rfl ?_
          refine z_icmp_le (tgt := 74) (n := 67) hC dJ6_numberOfTrailingZeros_0f7a4_64 (by decide) rfl (fun c6 => ?_) (fun c6 => ?_)
          · refine z_iload_n (n := 75) hC dJ6_numberOfTrailingZeros_0f7a4_74 rfl 1 rfl rfl ?_
            refine z_iload_n (n := 76) hC dJ6_numberOfTrailingZeros_0f7a4_75 rfl 0 rfl rfl ?_
            refine z_iconst (v := nI 1) (n := 77) hC dJ6_numberOfTrailingZeros_0f7a4_76 (by decide) rfl ?_
            refine z_iushr (v := ((((((nI (mkF lf n)) ^^^ (-1)) &&& ((nI (mkF lf n)) - (nI 1))).toUInt32 >>> ((nI 4).toUInt32 &&& Int32.toUInt32 31)).toInt32).toUInt32 >>> ((nI 1).toUInt32 &&& Int32.toUInt32 31)).toInt32) (n := 78) hC dJ6_numberOfTrailingZeros_0f7a4_77 rfl rfl ?_
            refine z_iadd (v := (nI 5) + (((((((nI (mkF lf n)) ^^^ (-1)) &&& ((nI (mkF lf n)) - (nI 1))).toUInt32 >>> ((nI 4).toUInt32 &&& Int32.toUInt32 31)).toInt32).toUInt32 >>> ((nI 1).toUInt32 &&& Int32.toUInt32 31)).toInt32)) (n := 79) hC dJ6_numberOfTrailingZeros_0f7a4_78 rfl rfl ?_
            refine z_iret hC hr hlocks () ?_ rfl dJ6_numberOfTrailingZeros_0f7a4_79 (by omega) (by omega)
            rw [tz_ok lf hn hx]
            have key : ∀ m : Nat, m < 64 → ((m ≠ 0 ∧ (0 < (((nI m) ^^^ (-1)) &&& ((nI m) - (nI 1)))) ∧ ((((nI m) ^^^ (-1)) &&& ((nI m) - (nI 1))) ≤ (65536 : Int32)) ∧ ((((nI m) ^^^ (-1)) &&& ((nI m) - (nI 1))) ≤ (nI 256)) ∧ ¬ ((((nI m) ^^^ (-1)) &&& ((nI m) - (nI 1))) ≤ (nI 16)) ∧ ((((((nI m) ^^^ (-1)) &&& ((nI m) - (nI 1))).toUInt32 >>> ((nI 4).toUInt32 &&& Int32.toUInt32 31)).toInt32) ≤ (nI 4))) → (nI 5) + (((((((nI m) ^^^ (-1)) &&& ((nI m) - (nI 1))).toUInt32 >>> ((nI 4).toUInt32 &&& Int32.toUInt32 31)).toInt32).toUInt32 >>> ((nI 1).toUInt32 &&& Int32.toUInt32 31)).toInt32) = nI (tzF m)) := by decide +kernel
            exact key _ (mkF_64 lf hn) ⟨mk_pos hx, c1, c2, c3, c4, c6⟩
          · refine z_iinc (k0 := 1) (v := nI 7) (lv' := [(1, .int (nI 7)), (0, .int (((((nI (mkF lf n)) ^^^ (-1)) &&& ((nI (mkF lf n)) - (nI 1))).toUInt32 >>> ((nI 4).toUInt32 &&& Int32.toUInt32 31)).toInt32))]) (n := 70) hC dJ6_numberOfTrailingZeros_0f7a4_67 rfl (nI_add 5 2) (by decide) rfl rfl ?_
            refine z_iload_n (n := 71) hC dJ6_numberOfTrailingZeros_0f7a4_70 rfl 1 rfl rfl ?_
            refine z_iconst (v := nI 2) (n := 72) hC dJ6_numberOfTrailingZeros_0f7a4_71 (by decide) rfl ?_
            refine z_iushr (v := ((((((nI (mkF lf n)) ^^^ (-1)) &&& ((nI (mkF lf n)) - (nI 1))).toUInt32 >>> ((nI 4).toUInt32 &&& Int32.toUInt32 31)).toInt32).toUInt32 >>> ((nI 2).toUInt32 &&& Int32.toUInt32 31)).toInt32) (n := 73) hC dJ6_numberOfTrailingZeros_0f7a4_72 rfl rfl ?_
            refine z_istore_n (lv' := [(0, .int (((((((nI (mkF lf n)) ^^^ (-1)) &&& ((nI (mkF lf n)) - (nI 1))).toUInt32 >>> ((nI 4).toUInt32 &&& Int32.toUInt32 31)).toInt32).toUInt32 >>> ((nI 2).toUInt32 &&& Int32.toUInt32 31)).toInt32)), (1, .int (nI 7))]) (n := 74) hC dJ6_numberOfTrailingZeros_0f7a4_73 rfl (by decide) rfl rfl ?_
            refine z_iload_n (n := 75) hC dJ6_numberOfTrailingZeros_0f7a4_74 rfl 1 rfl rfl ?_
            refine z_iload_n (n := 76) hC dJ6_numberOfTrailingZeros_0f7a4_75 rfl 0 rfl rfl ?_
            refine z_iconst (v := nI 1) (n := 77) hC dJ6_numberOfTrailingZeros_0f7a4_76 (by decide) rfl ?_
            refine z_iushr (v := ((((((((nI (mkF lf n)) ^^^ (-1)) &&& ((nI (mkF lf n)) - (nI 1))).toUInt32 >>> ((nI 4).toUInt32 &&& Int32.toUInt32 31)).toInt32).toUInt32 >>> ((nI 2).toUInt32 &&& Int32.toUInt32 31)).toInt32).toUInt32 >>> ((nI 1).toUInt32 &&& Int32.toUInt32 31)).toInt32) (n := 78) hC dJ6_numberOfTrailingZeros_0f7a4_77 rfl rfl ?_
            refine z_iadd (v := (nI 7) + (((((((((nI (mkF lf n)) ^^^ (-1)) &&& ((nI (mkF lf n)) - (nI 1))).toUInt32 >>> ((nI 4).toUInt32 &&& Int32.toUInt32 31)).toInt32).toUInt32 >>> ((nI 2).toUInt32 &&& Int32.toUInt32 31)).toInt32).toUInt32 >>> ((nI 1).toUInt32 &&& Int32.toUInt32 31)).toInt32)) (n := 79) hC dJ6_numberOfTrailingZeros_0f7a4_78 rfl rfl ?_
            refine z_iret hC hr hlocks () ?_ rfl dJ6_numberOfTrailingZeros_0f7a4_79 (by omega) (by omega)
            rw [tz_ok lf hn hx]
            have key : ∀ m : Nat, m < 64 → ((m ≠ 0 ∧ (0 < (((nI m) ^^^ (-1)) &&& ((nI m) - (nI 1)))) ∧ ((((nI m) ^^^ (-1)) &&& ((nI m) - (nI 1))) ≤ (65536 : Int32)) ∧ ((((nI m) ^^^ (-1)) &&& ((nI m) - (nI 1))) ≤ (nI 256)) ∧ ¬ ((((nI m) ^^^ (-1)) &&& ((nI m) - (nI 1))) ≤ (nI 16)) ∧ ¬ ((((((nI m) ^^^ (-1)) &&& ((nI m) - (nI 1))).toUInt32 >>> ((nI 4).toUInt32 &&& Int32.toUInt32 31)).toInt32) ≤ (nI 4))) → (nI 7) + (((((((((nI m) ^^^ (-1)) &&& ((nI m) - (nI 1))).toUInt32 >>> ((nI 4).toUInt32 &&& Int32.toUInt32 31)).toInt32).toUInt32 >>> ((nI 2).toUInt32 &&& Int32.toUInt32 31)).toInt32).toUInt32 >>> ((nI 1).toUInt32 &&& Int32.toUInt32 31)).toInt32) = nI (tzF m)) := by decide +kernel
            exact key _ (mkF_64 lf hn) ⟨mk_pos hx, c1, c2, c3, c4, c6⟩
      · refine z_iinc (k0 := 0) (v := nI 9) (lv' := [(1, .int (nI 9)), (0, .int (((nI (mkF lf n)) ^^^ (-1)) &&& ((nI (mkF lf n)) - (nI 1))))]) (n := 44) hC dJ6_numberOfTrailingZeros_0f7a4_41 rfl (nI_add 1 8) (by decide) rfl rfl ?_
        refine z_iload_n (n := 45) hC dJ6_numberOfTrailingZeros_0f7a4_44 rfl 1 rfl rfl ?_
        refine z_bipush (v := nI 8) (n := 47) hC dJ6_numberOfTrailingZeros_0f7a4_45 (by decide) rfl ?_
        refine z_iushr (v := ((((nI (mkF lf n)) ^^^ (-1)) &&& ((nI (mkF lf n)) - (nI 1))).toUInt32 >>> ((nI 8).toUInt32 &&& Int32.toUInt32 31)).toInt32) (n := 48) hC dJ6_numberOfTrailingZeros_0f7a4_47 rfl rfl ?_
        refine z_istore_n (lv' := [(0, .int (((((nI (mkF lf n)) ^^^ (-1)) &&& ((nI (mkF lf n)) - (nI 1))).toUInt32 >>> ((nI 8).toUInt32 &&& Int32.toUInt32 31)).toInt32)), (1, .int (nI 9))]) (n := 49) hC dJ6_numberOfTrailingZeros_0f7a4_48 rfl (by decide) rfl rfl ?_
        refine z_iload_n (n := 50) hC dJ6_numberOfTrailingZeros_0f7a4_49 rfl 0 rfl rfl ?_
        refine z_bipush (v := nI 16) (n := 52) hC dJ6_numberOfTrailingZeros_0f7a4_50 (by decide) rfl ?_
        refine z_icmp_le (tgt := 62) (n := 55) hC dJ6_numberOfTrailingZeros_0f7a4_52 (by decide) rfl (fun c7 => ?_) (fun c7 => ?_)
        · refine z_iload_n (n := 63) hC dJ6_numberOfTrailingZeros_0f7a4_62 rfl 0 rfl rfl ?_
          refine z_iconst (v := nI 4) (n := 64) hC dJ6_numberOfTrailingZeros_0f7a4_63 (by decide) rfl ?_
          refine z_icmp_le (tgt := 74) (n := 67) hC dJ6_numberOfTrailingZeros_0f7a4_64 (by decide) rfl (fun c8 => ?_) (fun c8 => ?_)
          · refine z_iload_n (n := 75) hC dJ6_numberOfTrailingZeros_0f7a4_74 rfl 1 rfl rfl ?_
            refine z_iload_n (n := 76) hC dJ6_numberOfTrailingZeros_0f7a4_75 rfl 0 rfl rfl ?_
            refine z_iconst (v := nI 1) (n := 77) hC dJ6_numberOfTrailingZeros_0f7a4_76 (by decide) rfl ?_
            refine z_iushr (v := ((((((nI (mkF lf n)) ^^^ (-1)) &&& ((nI (mkF lf n)) - (nI 1))).toUInt32 >>> ((nI 8).toUInt32 &&& Int32.toUInt32 31)).toInt32).toUInt32 >>> ((nI 1).toUInt32 &&& Int32.toUInt32 31)).toInt32) (n := 78) hC dJ6_numberOfTrailingZeros_0f7a4_77 rfl rfl ?_
            refine z_iadd (v := (nI 9) + (((((((nI (mkF lf n)) ^^^ (-1)) &&& ((nI (mkF lf n)) - (nI 1))).toUInt32 >>> ((nI 8).toUInt32 &&& Int32.toUInt32 31)).toInt32).toUInt32 >>> ((nI 1).toUInt32 &&& Int32.toUInt32 31)).toInt32)) (n := 79) hC dJ6_numberOfTrailingZeros_0f7a4_78 rfl rfl ?_
            refine z_iret hC hr hlocks () ?_ rfl dJ6_numberOfTrailingZeros_0f7a4_79 (by omega) (by omega)
            rw [tz_ok lf hn hx]
            have key : ∀ m : Nat, m < 64 → ((m ≠ 0 ∧ (0 < (((nI m) ^^^ (-1)) &&& ((nI m) - (nI 1)))) ∧ ((((nI m) ^^^ (-1)) &&& ((nI m) - (nI 1))) ≤ (65536 : Int32)) ∧ ¬ ((((nI m) ^^^ (-1)) &&& ((nI m) - (nI 1))) ≤ (nI 256)) ∧ ((((((nI m) ^^^ (-1)) &&& ((nI m) - (nI 1))).toUInt32 >>> ((nI 8).toUInt32 &&& Int32.toUInt32 31)).toInt32) ≤ (nI 16)) ∧ ((((((nI m) ^^^ (-1)) &&& ((nI m) - (nI 1))).toUInt32 >>> ((nI 8).toUInt32 &&& Int32.toUInt32 31)).toInt32) ≤ (nI 4))) → (nI 9) + (((((((nI m) ^^^ (-1)) &&& ((nI m) - (nI 1))).toUInt32 >>> ((nI 8).toUInt32 &&& Int32.toUInt32 31)).toInt32).toUInt32 >>> ((nI 1).toUInt32 &&& Int32.toUInt32 31)).toInt32) = nI (tzF m)) := by decide +kernel
            exact key _ (mkF_64 lf hn) ⟨mk_pos hx, c1, c2, c3, c7, c8⟩
          · refine z_iinc (k0 := 1) (v := nI 11) (lv' := [(1, .int (nI 11)), (0, .int (((((nI (mkF lf n)) ^^^ (-1)) &&& ((nI (mkF lf n)) - (nI 1))).toUInt32 >>> ((nI 8).toUInt32 &&& Int32.toUInt32 31)).toInt32))]) (n := 70) hC dJ6_numberOfTrailingZeros_0f7a4_67 rfl (nI_add 9 2) (by decide) rfl rfl ?_
            refine z_iload_n (n := 71) hC dJ6_numberOfTrailingZeros_0f7a4_70 rfl 1 rfl rfl ?_
            refine z_iconst (v := nI 2) (n := 72) hC dJ6_numberOfTrailingZeros_0f7a4_71 (by decide) rfl ?_
            refine z_iushr (v := ((((((nI (mkF lf n)) ^^^ (-1)) &&& ((nI (mkF lf n)) - (nI 1))).toUInt32 >>> ((nI 8).toUInt32 &&& Int32.toUInt32 31)).toInt32).toUInt32 >>> ((nI 2).toUInt32 &&& Int32.toUInt32 31)).toInt32) (n := 73) hC dJ6_numberOfTrailingZeros_0f7a4_72 rfl rfl ?_
            refine z_istore_n (lv' := [(0, .int (((((((nI (mkF lf n)) ^^^ (-1)) &&& ((nI (mkF lf n)) - (nI 1))).toUInt32 >>> ((nI 8).toUInt32 &&& Int32.toUInt32 31)).toInt32).toUInt32 >>> ((nI 2).toUInt32 &&& Int32.toUInt32 31)).toInt32)), (1, .int (nI 11))]) (n := 74) hC dJ6_numberOfTrailingZeros_0f7a4_73 rfl (by decide) rfl rfl ?_
            refine z_iload_n (n := 75) hC dJ6_numberOfTrailingZeros_0f7a4_74 rfl 1 rfl rfl ?_
            refine z_iload_n (n := 76) hC dJ6_numberOfTrailingZeros_0f7a4_75 rfl 0 rfl rfl ?_
            refine z_iconst (v := nI 1) (n := 77) hC dJ6_numberOfTrailingZeros_0f7a4_76 (by decide) rfl ?_
            refine z_iushr (v := ((((((((nI (mkF lf n)) ^^^ (-1)) &&& ((nI (mkF lf n)) - (nI 1))).toUInt32 >>> ((nI 8).toUInt32 &&& Int32.toUInt32 31)).toInt32).toUInt32 >>> ((nI 2).toUInt32 &&& Int32.toUInt32 31)).toInt32).toUInt32 >>> ((nI 1).toUInt32 &&& Int32.toUInt32 31)).toInt32) (n := 78) hC dJ6_numberOfTrailingZeros_0f7a4_77 rfl rfl ?_
            refine z_iadd (v := (nI 11) + (((((((((nI (mkF lf n)) ^^^ (-1)) &&& ((nI (mkF lf n)) - (nI 1))).toUInt32 >>> ((nI 8).toUInt32 &&& Int32.toUInt32 31)).toInt32).toUInt32 >>> ((nI 2).toUInt32 &&& Int32.toUInt32 31)).toInt32).toUInt32 >>> ((nI 1).toUInt32 &&& Int32.toUInt32 31)).toInt32)) (n := 79) hC dJ6_numberOfTrailingZeros_0f7a4_78 rfl rfl ?_
            refine z_iret hC hr hlocks () ?_ rfl dJ6_numberOfTrailingZeros_0f7a4_79 (by omega) (by omega)
            rw [tz_ok lf hn hx]
            have key : ∀ m : Nat, m < 64 → ((m ≠ 0 ∧ (0 < (((nI m) ^^^ (-1)) &&& ((nI m) - (nI 1)))) ∧ ((((nI m) ^^^ (-1)) &&& ((nI m) - (nI 1))) ≤ (65536 : Int32)) ∧ ¬ ((((nI m) ^^^ (-1)) &&& ((nI m) - (nI 1))) ≤ (nI 256)) ∧ ((((((nI m) ^^^ (-1)) &&& ((nI m) - (nI 1))).toUInt32 >>> ((nI 8).toUInt32 &&& Int32.toUInt32 31)).toInt32) ≤ (nI 16)) ∧ ¬ ((((((nI m) ^^^ (-1)) &&& ((nI m) - (nI 1))).toUInt32 >>> ((nI 8).toUInt32 &&& Int32.toUInt32 31)).toInt32) ≤ (nI 4))) → (nI 11) + (((((((((nI m) ^^^ (-1)) &&& ((nI m) - (nI 1))).toUInt32 >>> ((nI 8).toUInt32 &&& Int32.toUInt32 31)).toInt32).toUInt32 >>> ((nI 2).toUInt32 &&& Int32.toUInt32 31)).toInt32).toUInt32 >>> ((nI 1).toUInt32 &&& Int32.toUInt32 31)).toInt32) = nI (tzF m)) := by decide +kernel
            exact key _ (mkF_64 lf hn) ⟨mk_pos hx, c1, c2, c3, c7, c8⟩
        · refine z_iinc (k0 := 1) (v := nI 13) (lv' := [(1, .int (nI 13)), (0, .int (((((nI (mkF lf n)) ^^^ (-1)) &&& ((nI (mkF lf n)) - (nI 1))).toUInt32 >>> ((nI 8).toUInt32 &&& Int32.toUInt32 31)).toInt32))]) (n := 58) hC dJ6_numberOfTrailingZeros_0f7a4_55 rfl (nI_add 9 4) (by decide) rfl rfl ?_
          refine z_iload_n (n := 59) hC dJ6_numberOfTrailingZeros_0f7a4_58 rfl 1 rfl rfl ?_
          refine z_iconst (v := nI 4) (n := 60) hC dJ6_numberOfTrailingZeros_0f7a4_59 (by decide) rfl ?_
          refine z_iushr (v := ((((((nI (mkF lf n)) ^^^ (-1)) &&& ((nI (mkF lf n)) - (nI 1))).toUInt32 >>> ((nI 8).toUInt32 &&& Int32.toUInt32 31)).toInt32).toUInt32 >>> ((nI 4).toUInt32 &&& Int32.toUInt32 31)).toInt32) (n := 61) hC dJ6_numberOfTrailingZeros_0f7a4_60 rfl rfl ?_
          refine z_istore_n (lv' := [(0, .int (((((((nI (mkF lf n)) ^^^ (-1)) &&& ((nI (mkF lf n)) - (nI 1))).toUInt32 >>> ((nI 8).toUInt32 &&& Int32.toUInt32 31)).toInt32).toUInt32 >>> ((nI 4).toUInt32 &&& Int32.toUInt32 31)).toInt32)), (1, .int (nI 13))]) (n := 62) hC dJ6_numberOfTrailingZeros_0f7a4_61 rfl (by decide) rfl rfl ?_
          refine z_iload_n (n := 63) hC dJ6_numberOfTrailingZeros_0f7a4_62 rfl 0 rfl rfl ?_
          refine z_iconst (v := nI 4) (n := 64) hC dJ6_numberOfTrailingZeros_0f7a4_63 (by decide) rfl ?_
          refine z_icmp_le (tgt := 74) (n := 67) hC dJ6_numberOfTrailingZeros_0f7a4_64 (by decide) rfl (fun c9 => ?_) (fun c9 => ?_)
          · refine z_iload_n (n := 75) hC dJ6_numberOfTrailingZeros_0f7a4_74 rfl 1 rfl rfl ?_
            refine z_iload_n (n := 76) hC dJ6_numberOfTrailingZeros_0f7a4_75 rfl 0 rfl rfl ?_
            refine z_iconst (v := nI 1) (n := 77) hC dJ6_numberOfTrailingZeros_0f7a4_76 (by decide) rfl ?_
            refine z_iushr (v := ((((((((nI (mkF lf n)) ^^^ (-1)) &&& ((nI (mkF lf n)) - (nI 1))).toUInt32 >>> ((nI 8).toUInt32 &&& Int32.toUInt32 31)).toInt32).toUInt32 >>> ((nI 4).toUInt32 &&& Int32.toUInt32 31)).toInt32).toUInt32 >>> ((nI 1).toUInt32 &&& Int32.toUInt32 31)).toInt32) (n := 78) hC dJ6_numberOfTrailingZeros_0f7a4_77 rfl rfl ?_
            refine z_iadd (v := (nI 13) + (((((((((nI (mkF lf n)) ^^^ (-1)) &&& ((nI (mkF lf n)) - (nI 1))).toUInt32 >>> ((nI 8).toUInt32 &&& Int32.toUInt32 31)).toInt32).toUInt32 >>> ((nI 4).toUInt32 &&& Int32.toUInt32 31)).toInt32).toUInt32 >>> ((nI 1).toUInt32 &&& Int32.toUInt32 31)).toInt32)) (n := 79) hC dJ6_numberOfTrailingZeros_0f7a4_78 rfl rfl ?_
            refine z_iret hC hr hlocks () ?_ rfl dJ6_numberOfTrailingZeros_0f7a4_79 (by omega) (by omega)
            rw [tz_ok lf hn hx]
            have key : ∀ m : Nat, m < 64 → ((m ≠ 0 ∧ (0 < (((nI m) ^^^ (-1)) &&& ((nI m) - (nI 1)))) ∧ ((((nI m) ^^^ (-1)) &&& ((nI m) - (nI 1))) ≤ (65536 : Int32)) ∧ ¬ ((((nI m) ^^^ (-1)) &&& ((nI m) - (nI 1))) ≤ (nI 256)) ∧ ¬ ((((((nI m) ^^^ (-1)) &&& ((nI m) - (nI 1))).toUInt32 >>> ((nI 8).toUInt32 &&& Int32.toUInt32 31)).toInt32) ≤ (nI 16)) ∧ ((((((((nI m) ^^^ (-1)) &&& ((nI m) - (nI 1))).toUInt32 >>> ((nI 8).toUInt32 &&& Int32.toUInt32 31)).toInt32).toUInt32 >>> ((nI 4).toUInt32 &&& Int32.toUInt32 31)).toInt32) ≤ (nI 4))) → (nI 13) + (((((((((nI m) ^^^ (-1)) &&& ((nI m) - (nI 1))).toUInt32 >>> ((nI 8).toUInt32 &&& Int32.toUInt32 31)).toInt32).toUInt32 >>> ((nI 4).toUInt32 &&& Int32.toUInt32 31)).toInt32).toUInt32 >>> ((nI 1).toUInt32 &&& Int32.toUInt32 31)).toInt32) = nI (tzF m)) := by decide +kernel
            exact key _ (mkF_64 lf hn) ⟨mk_pos hx, c1, c2, c3, c7, c9⟩
          · refine z_iinc (k0 := 1) (v := nI 15) (lv' := [(1, .int (nI 15)), (0, .int (((((((nI (mkF lf n)) ^^^ (-1)) &&& ((nI (mkF lf n)) - (nI 1))).toUInt32 >>> ((nI 8).toUInt32 &&& Int32.toUInt32 31)).toInt32).toUInt32 >>> ((nI 4).toUInt32 &&& Int32.toUInt32 31)).toInt32))]) (n := 70) hC dJ6_numberOfTrailingZeros_0f7a4_67 rfl (nI_add 13 2) (by decide) rfl rfl ?_
            refine z_iload_n (n := 71) hC dJ6_numberOfTrailingZeros_0f7a4_70 rfl 1 rfl rfl ?_
            refine z_iconst (v := nI 2) (n := 72) hC dJ6_numberOfTrailingZeros_0f7a4_71 (by decide) rfl ?_
            refine z_iushr (v := ((((((((nI (mkF lf n)) ^^^ (-1)) &&& ((nI (mkF lf n)) - (nI 1))).toUInt32 >>> ((nI 8).toUInt32 &&& Int32.toUInt32 31)).toInt32).toUInt32 >>> ((nI 4).toUInt32 &&& Int32.toUInt32 31)).toInt32).toUInt32 >>> ((nI 2).toUInt32 &&& Int32.toUInt32 31)).toInt32) (n := 73) hC dJ6_numberOfTrailingZeros_0f7a4_72 rfl rfl ?_
            refine z_istore_n (lv' := [(0, .int (((((((((nI (mkF lf n)) ^^^ (-1)) &&& ((nI (mkF lf n)) - (nI 1))).toUInt32 >>> ((nI 8).toUInt32 &&& Int32.toUInt32 31)).toInt32).toUInt32 >>> ((nI 4).toUInt32 &&& Int32.toUInt32 31)).toInt32).toUInt32 >>> ((nI 2).toUInt32 &&& Int32.toUInt32 31)).toInt32)), (1, .int (nI 15))]) (n := 74) hC dJ6_numberOfTrailingZeros_0f7a4_73 rfl (by decide) rfl rfl ?_
            refine z_iload_n (n := 75) hC dJ6_numberOfTrailingZeros_0f7a4_74 rfl 1 rfl rfl ?_
            refine z_iload_n (n := 76) hC dJ6_numberOfTrailingZeros_0f7a4_75 rfl 0 rfl rfl ?_
            refine z_iconst (v := nI 1) (n := 77) hC dJ6_numberOfTrailingZeros_0f7a4_76 (by decide) rfl ?_
            refine z_iushr (v := ((((((((((nI (mkF lf n)) ^^^ (-1)) &&& ((nI (mkF lf n)) - (nI 1))).toUInt32 >>> ((nI 8).toUInt32 &&& Int32.toUInt32 31)).toInt32).toUInt32 >>> ((nI 4).toUInt32 &&& Int32.toUInt32 31)).toInt32).toUInt32 >>> ((nI 2).toUInt32 &&& Int32.toUInt32 31)).toInt32).toUInt32 >>> ((nI 1).toUInt32 &&& Int32.toUInt32 31)).toInt32) (n := 78) hC dJ6_numberOfTrailingZeros_0f7a4_77 rfl rfl ?_
            refine z_iadd (v := (nI 15) + (((((((((((nI (mkF lf n)) ^^^ (-1)) &&& ((nI (mkF lf n)) - (nI 1))).toUInt32 >>> ((nI 8).toUInt32 &&& Int32.toUInt32 31)).toInt32).toUInt32 >>> ((nI 4).toUInt32 &&& Int32.toUInt32 31)).toInt32).toUInt32 >>> ((nI 2).toUInt32 &&& Int32.toUInt32 31)).toInt32).toUInt32 >>> ((nI 1).toUInt32 &&& Int32.toUInt32 31)).toInt32)) (n := 79) hC dJ6_numberOfTrailingZeros_0f7a4_78 rfl rfl ?_
            refine z_iret hC hr hlocks () ?_ rfl dJ6_numberOfTrailingZeros_0f7a4_79 (by omega) (by omega)
            rw [tz_ok lf hn hx]
            have key : ∀ m : Nat, m < 64 → ((m ≠ 0 ∧ (0 < (((nI m) ^^^ (-1)) &&& ((nI m) - (nI 1)))) ∧ ((((nI m) ^^^ (-1)) &&& ((nI m) - (nI 1))) ≤ (65536 : Int32)) ∧ ¬ ((((nI m) ^^^ (-1)) &&& ((nI m) - (nI 1))) ≤ (nI 256)) ∧ ¬ ((((((nI m) ^^^ (-1)) &&& ((nI m) - (nI 1))).toUInt32 >>> ((nI 8).toUInt32 &&& Int32.toUInt32 31)).toInt32) ≤ (nI 16)) ∧ ¬ ((((((((nI m) ^^^ (-1)) &&& ((nI m) - (nI 1))).toUInt32 >>> ((nI 8).toUInt32 &&& Int32.toUInt32 31)).toInt32).toUInt32 >>> ((nI 4).toUInt32 &&& Int32.toUInt32 31)).toInt32) ≤ (nI 4))) → (nI 15) + (((((((((((nI m) ^^^ (-1)) &&& ((nI m) - (nI 1))).toUInt32 >>> ((nI 8).toUInt32 &&& Int32.toUInt32 31)).toInt32).toUInt32 >>> ((nI 4).toUInt32 &&& Int32.toUInt32 31)).toInt32).toUInt32 >>> ((nI 2).toUInt32 &&& Int32.toUInt32 31)).toInt32).toUInt32 >>> ((nI 1).toUInt32 &&& Int32.toUInt32 31)).toInt32) = nI (tzF m)) := by decide +kernel
            exact key _ (mkF_64 lf hn) ⟨mk_pos hx, c1, c2, c3, c7, c9⟩
    · refine z_iinc (k0 := 0) (v := nI 17) (lv' := [(1, .int (nI 17)), (0, .int (((nI (mkF lf n)) ^^^ (-1)) &&& ((nI (mkF lf n)) - (nI 1))))]) (n := 29) hC dJ6_numberOfTrailingZeros_0f7a4_26 rfl (nI_add 1 16) (by decide) rfl rfl ?_
      refine z_iload_n (n := 30) hC dJ6_numberOfTrailingZeros_0f7a4_29 rfl 1 rfl rfl ?_
      refine z_bipush (v := nI 16) (n := 32) hC dJ6_numberOfTrailingZeros_0f7a4_30 (by decide) rfl ?_
      refine z_iushr (v := ((((nI (mkF lf n)) ^^^ (-1)) &&& ((nI (mkF lf n)) - (nI 1))).toUInt32 >>> ((nI 16).toUInt32 &&& Int32.toUInt32 31)).toInt32) (n := 33) hC dJ6_numberOfTrailingZeros_0f7a4_32 rfl rfl ?_
      refine z_istore_n (lv' := [(0, .int (((((nI (mkF lf n)) ^^^ (-1)) &&& ((nI (mkF lf n)) - (nI 1))).toUInt32 >>> ((nI 16).toUInt32 &&& Int32.toUInt32 31)).toInt32)), (1, .int (nI 17))]) (n := 34) hC dJ6_numberOfTrailingZeros_0f7a4_33 rfl (by decide) rfl rfl ?_
      refine z_iload_n (n := 35) hC dJ6_numberOfTrailingZeros_0f7a4_34 rfl 0 rfl rfl ?_
      refine z_sipush (v := nI 256) (n := 38) hC dJ6_numberOfTrailingZeros_0f7a4_35 (by decide) rfl ?_
      refine z_icmp_le (tgt := 49) (n := 41) hC dJ6_numberOfTrailingZeros_0f7a4_38 (by decide) rfl (fun c10 => ?_) (fun c10 => ?_)
      · refine z_iload_n (n := 50) hC dJ6_numberOfTrailingZeros_0f7a4_49 rfl 0 rfl rfl ?_
        refine z_bipush (v := nI 16) (n := 52) hC dJ6_numberOfTrailingZeros_0f7a4_50 (by decide) rfl ?_
        refine z_icmp_le (tgt := 62) (n := 55) hC dJ6_numberOfTrailingZeros_0f7a4_52 (by decide) rfl (fun c11 => ?_) (fun c11 => ?_)
        · refine z_iload_n (n := 63) hC dJ6_numberOfTrailingZeros_0f7a4_62 rfl 0 rfl rfl ?_
          refine z_iconst (v := nI 4) (n := 64) hC dJ6_numberOfTrailingZeros_0f7a4_63 (by decide) rfl ?_
          refine z_icmp_le (tgt := 74) (n := 67) hC dJ6_numberOfTrailingZeros_0f7a4_64 (by decide) rfl (fun c12 => ?_) (fun c12 => ?_)
          · refine z_iload_n (n := 75) hC dJ6_numberOfTrailingZeros_0f7a4_74 rfl 1 rfl rfl ?_
            refine z_iload_n (n := 76) hC dJ6_numberOfTrailingZeros_0f7a4_75 rfl 0 rfl rfl ?_
            refine z_iconst (v := nI 1) (n := 77) hC dJ6_numberOfTrailingZeros_0f7a4_76 (by decide) rfl ?_
            refine z_iushr (v := ((((((nI (mkF lf n)) ^^^ (-1)) &&& ((nI (mkF lf n)) - (nI 1))).toUInt32 >>> ((nI 16).toUInt32 &&& Int32.toUInt32 31)).toInt32).toUInt32 >>> ((nI 1).toUInt32 &&& Int32.toUInt32 31)).toInt32) (n := 78) hC dJ6_numberOfTrailingZeros_0f7a4_77 rfl rfl ?_
            refine z_iadd (v := (nI 17) + (((((((nI (mkF lf n)) ^^^ (-1)) &&& ((nI (mkF lf n)) - (nI 1))).toUInt32 >>> ((nI 16).toUInt32 &&& Int32.toUInt32 31)).toInt32).toUInt32 >>> ((nI 1).toUInt32 &&& Int32.toUInt32 31)).toInt32)) (n := 79) hC dJ6_numberOfTrailingZeros_0f7a4_78 rfl rfl ?_
            refine z_iret hC hr hlocks () ?_ rfl dJ6_numberOfTrailingZeros_0f7a4_79 (by omega) (by omega)
            rw [tz_ok lf hn hx]
            have key : ∀ m : Nat, m < 64 → ((m ≠ 0 ∧ (0 < (((nI m) ^^^ (-1)) &&& ((nI m) - (nI 1)))) ∧ ¬ ((((nI m) ^^^ (-1)) &&& ((nI m) - (nI 1))) ≤ (65536 : Int32)) ∧ ((((((nI m) ^^^ (-1)) &&& ((nI m) - (nI 1))).toUInt32 >>> ((nI 16).toUInt32 &&& Int32.toUInt32 31)).toInt32) ≤ (nI 256)) ∧ ((((((nI m) ^^^ (-1)) &&& ((nI m) - (nI 1))).toUInt32 >>> ((nI 16).toUInt32 &&& Int32.toUInt32 31)).toInt32) ≤ (nI 16)) ∧ ((((((nI m) ^^^ (-1)) &&& ((nI m) - (nI 1))).toUInt32 >>> ((nI 16).toUInt32 &&& Int32.toUInt32 31)).toInt32) ≤ (nI 4))) → (nI 17) + (((((((nI m) ^^^ (-1)) &&& ((nI m) - (nI 1))).toUInt32 >>> ((nI 16).toUInt32 &&& Int32.toUInt32 31)).toInt32).toUInt32 >>> ((nI 1).toUInt32 &&& Int32.toUInt32 31)).toInt32) = nI (tzF m)) := by decide +kernel
            exact key _ (mkF_64 lf hn) ⟨mk_pos hx, c1, c2, c10, c11, c12⟩
          · refine z_iinc (k0 := 1) (v := nI 19) (lv' := [(1, .int (nI 19)), (0, .int (((((nI (mkF lf n)) ^^^ (-1)) &&& ((nI (mkF lf n)) - (nI 1))).toUInt32 >>> ((nI 16).toUInt32 &&& Int32.toUInt32 31)).toInt32))]) (n := 70) hC dJ6_numberOfTrailingZeros_0f7a4_67 rfl (nI_add 17 2) (by decide) rfl rfl ?_
            refine z_iload_n (n := 71) hC dJ6_numberOfTrailingZeros_0f7a4_70 rfl 1 rfl rfl ?_
            refine z_iconst (v := nI 2) (n := 72) hC dJ6_numberOfTrailingZeros_0f7a4_71 (by decide) rfl ?_
            refine z_iushr (v := ((((((nI (mkF lf n)) ^^^ (-1)) &&& ((nI (mkF lf n)) - (nI 1))).toUInt32 >>> ((nI 16).toUInt32 &&& Int32.toUInt32 31)).toInt32).toUInt32 >>> ((nI 2).toUInt32 &&& Int32.toUInt32 31)).toInt32) (n := 73) hC dJ6_numberOfTrailingZeros_0f7a4_72 rfl rfl ?_
            refine z_istore_n (lv' := [(0, .int (((((((nI (mkF lf n)) ^^^ (-1)) &&& ((nI (mkF lf n)) - (nI 1))).toUInt32 >>> ((nI 16).toUInt32 &&& Int32.toUInt32 31)).toInt32).toUInt32 >>> ((nI 2).toUInt32 &&& Int32.toUInt32 31)).toInt32)), (1, .int (nI 19))]) (n := 74) hC dJ6_numberOfTrailingZeros_0f7a4_73 rfl (by decide) rfl rfl ?_
            refine z_iload_n (n := 75) hC dJ6_numberOfTrailingZeros_0f7a4_74 rfl 1 rfl rfl ?_
            refine z_iload_n (n := 76) hC dJ6_numberOfTrailingZeros_0f7a4_75 rfl 0 rfl rfl ?_
            refine z_iconst (v := nI 1) (n := 77) hC dJ6_numberOfTrailingZeros_0f7a4_76 (by decide) rfl ?_
            refine z_iushr (v := ((((((((nI (mkF lf n)) ^^^ (-1)) &&& ((nI (mkF lf n)) - (nI 1))).toUInt32 >>> ((nI 16).toUInt32 &&& Int32.toUInt32 31)).toInt32).toUInt32 >>> ((nI 2).toUInt32 &&& Int32.toUInt32 31)).toInt32).toUInt32 >>> ((nI 1).toUInt32 &&& Int32.toUInt32 31)).toInt32) (n := 78) hC dJ6_numberOfTrailingZeros_0f7a4_77 rfl rfl ?_
            refine z_iadd (v := (nI 19) + (((((((((nI (mkF lf n)) ^^^ (-1)) &&& ((nI (mkF lf n)) - (nI 1))).toUInt32 >>> ((nI 16).toUInt32 &&& Int32.toUInt32 31)).toInt32).toUInt32 >>> ((nI 2).toUInt32 &&& Int32.toUInt32 31)).toInt32).toUInt32 >>> ((nI 1).toUInt32 &&& Int32.toUInt32 31)).toInt32)) (n := 79) hC dJ6_numberOfTrailingZeros_0f7a4_78 rfl rfl ?_
            refine z_iret hC hr hlocks () ?_ rfl dJ6_numberOfTrailingZeros_0f7a4_79 (by omega) (by omega)
            rw [tz_ok lf hn hx]
            have key : ∀ m : Nat, m < 64 → ((m ≠ 0 ∧ (0 < (((nI m) ^^^ (-1)) &&& ((nI m) - (nI 1)))) ∧ ¬ ((((nI m) ^^^ (-1)) &&& ((nI m) - (nI 1))) ≤ (65536 : Int32)) ∧ ((((((nI m) ^^^ (-1)) &&& ((nI m) - (nI 1))).toUInt32 >>> ((nI 16).toUInt32 &&& Int32.toUInt32 31)).toInt32) ≤ (nI 256)) ∧ ((((((nI m) ^^^ (-1)) &&& ((nI m) - (nI 1))).toUInt32 >>> ((nI 16).toUInt32 &&& Int32.toUInt32 31)).toInt32) ≤ (nI 16)) ∧ ¬ ((((((nI m) ^^^ (-1)) &&& ((nI m) - (nI 1))).toUInt32 >>> ((nI 16).toUInt32 &&& Int32.toUInt32 31)).toInt32) ≤ (nI 4))) → (nI 19) + (((((((((nI m) ^^^ (-1)) &&& ((nI m) - (nI 1))).toUInt32 >>> ((nI 16).toUInt32 &&& Int32.toUInt32 31)).toInt32).toUInt32 >>> ((nI 2).toUInt32 &&& Int32.toUInt32 31)).toInt32).toUInt32 >>> ((nI 1).toUInt32 &&& Int32.toUInt32 31)).toInt32) = nI (tzF m)) := by decide +kernel
            exact key _ (mkF_64 lf hn) ⟨mk_pos hx, c1, c2, c10, c11, c12⟩
        · refine z_iinc (k0 := 1) (v := nI 21) (lv' := [(1, .int (nI 21)), (0, .int (((((nI (mkF lf n)) ^^^ (-1)) &&& ((nI (mkF lf n)) - (nI 1))).toUInt32 >>> ((nI 16).toUInt32 &&& Int32.toUInt32 31)).toInt32))]) (n := 58) hC dJ6_numberOfTrailingZeros_0f7a4_55 rfl (nI_add 17 4) (by decide) rfl rfl ?_
          refine z_iload_n (n := 59) hC dJ6_numberOfTrailingZeros_0f7a4_58 rfl 1 rfl rfl ?_
          refine z_iconst (v := nI 4) (n := 60) hC dJ6_numberOfTrailingZeros_0f7a4_59 (by decide) rfl ?_
          refine z_iushr (v := ((((((nI (mkF lf n)) ^^^ (-1)) &&& ((nI (mkF lf n)) - (nI 1))).toUInt32 >>> ((nI 16).toUInt32 &&& Int32.toUInt32 31)).toInt32).toUInt32 >>> ((nI 4).toUInt32 &&& Int32.toUInt32 31)).toInt32) (n := 61) hC dJ6_numberOfTrailingZeros_0f7a4_60 rfl rfl ?_
          refine z_istore_n (lv' := [(0, .int (((((((nI (mkF lf n)) ^^^ (-1)) &&& ((nI (mkF lf n)) - (nI 1))).toUInt32 >>> ((nI 16).toUInt32 &&& Int32.toUInt32 31)).toInt32).toUInt32 >>> ((nI 4).toUInt32 &&& Int32.toUInt32 31)).toInt32)), (1, .int (nI 21))]) (n := 62) hC dJ6_numberOfTrailingZeros_0f7a4_61 rfl (by decide) rfl rfl ?_
          refine z_iload_n (n := 63) hC dJ6_numberOfTrailingZeros_0f7a4_62 rfl 0 rfl rfl ?_
          refine z_iconst (v := nI 4) (n := 64) hC dJ6_numberOfTrailingZeros_0f7a4_63 (by decide) rfl ?_
          refine z_icmp_le (tgt := 74) (n := 67) hC dJ6_numberOfTrailingZeros_0f7a4_64 (by decide) rfl (fun c13 => ?_) (fun c13 => ?_)
          · refine z_iload_n (n := 75) hC dJ6_numberOfTrailingZeros_0f7a4_74 rfl 1 rfl rfl ?_
            refine z_iload_n (n := 76) hC dJ6_numberOfTrailingZeros_0f7a4_75 rfl 0 rfl rfl ?_
            refine z_iconst (v := nI 1) (n := 77) hC dJ6_numberOfTrailingZeros_0f7a4_76 (by decide) rfl ?_
            refine z_iushr (v := ((((((((nI (mkF lf n)) ^^^ (-1)) &&& ((nI (mkF lf n)) - (nI 1))).toUInt32 >>> ((nI 16).toUInt32 &&& Int32.toUInt32 31)).toInt32).toUInt32 >>> ((nI 4).toUInt32 &&& Int32.toUInt32 31)).toInt32).toUInt32 >>> ((nI 1).toUInt32 &&& Int32.toUInt32 31)).toInt32) (n := 78) hC dJ6_numberOfTrailingZeros_0f7a4_77 rfl rfl ?_
            refine z_iadd (v := (nI 21) + (((((((((nI (mkF lf n)) ^^^ (-1)) &&& ((nI (mkF lf n)) - (nI 1))).toUInt32 >>> ((nI 16).toUInt32 &&& Int32.toUInt32 31)).toInt32).toUInt32 >>> ((nI 4).toUInt32 &&& Int32.toUInt32 31)).toInt32).toUInt32 >>> ((nI 1).toUInt32 &&& Int32.toUInt32 31)).toInt32)) (n := 79) hC dJ6_numberOfTrailingZeros_0f7a4_78 rfl rfl ?_
            refine z_iret hC hr hlocks () ?_ rfl dJ6_numberOfTrailingZeros_0f7a4_79 (by omega) (by omega)
            rw [tz_ok lf hn hx]
            have key : ∀ m : Nat, m < 64 → ((m ≠ 0 ∧ (0 < (((nI m) ^^^ (-1)) &&& ((nI m) - (nI 1)))) ∧ ¬ ((((nI m) ^^^ (-1)) &&& ((nI m) - (nI 1))) ≤ (65536 : Int32)) ∧ ((((((nI m) ^^^ (-1)) &&& ((nI m) - (nI 1))).toUInt32 >>> ((nI 16).toUInt32 &&& Int32.toUInt32 31)).toInt32) ≤ (nI 256)) ∧ ¬ ((((((nI m) ^^^ (-1)) &&& ((nI m) - (nI 1))).toUInt32 >>> ((nI 16).toUInt32 &&& Int32.toUInt32 31)).toInt32) ≤ (nI 16)) ∧ ((((((((nI m) ^^^ (-1)) &&& ((nI m) - (nI 1))).toUInt32 >>> ((nI 16).toUInt32 &&& Int32.toUInt32 31)).toInt32).toUInt32 >>> ((nI 4).toUInt32 &&& Int32.toUInt32 31)).toInt32) ≤ (nI 4))) → (nI 21) + (((((((((nI m) ^^^ (-1)) &&& ((nI m) - (nI 1))).toUInt32 >>> ((nI 16).toUInt32 &&& Int32.toUInt32 31)).toInt32).toUInt32 >>> ((nI 4).toUInt32 &&& Int32.toUInt32 31)).toInt32).toUInt32 >>> ((nI 1).toUInt32 &&& Int32.toUInt32 31)).toInt32) = nI (tzF m)) := by decide +kernel
            exact key _ (mkF_64 lf hn) ⟨mk_pos hx, c1, c2, c10, c11, c13⟩
          · refine z_iinc (k0 := 1) (v := nI 23) (lv' := [(1, .int (nI 23)), (0, .int (((((((nI (mkF lf n)) ^^^ (-1)) &&& ((nI (mkF lf n)) - (nI 1))).toUInt32 >>> ((nI 16).toUInt32 &&& Int32.toUInt32 31)).toInt32).toUInt32 >>> ((nI 4).toUInt32 &&& Int32.toUInt32 31)).toInt32))]) (n := 70) hC dJ6_numberOfTrailingZeros_0f7a4_67 rfl (nI_add 21 2) (by decide) rfl rfl ?_
            refine z_iload_n (n := 71) hC dJ6_numberOfTrailingZeros_0f7a4_70 rfl 1 rfl rfl ?_
            refine z_iconst (v := nI 2) (n := 72) hC dJ6_numberOfTrailingZeros_0f7a4_71 (by decide) rfl ?_
            refine z_iushr (v := ((((((((nI (mkF lf n)) ^^^ (-1)) &&& ((nI (mkF lf n)) - (nI 1))).toUInt32 >>> ((nI 16).toUInt32 &&& Int32.toUInt32 31)).toInt32).toUInt32 >>> ((nI 4).toUInt32 &&& Int32.toUInt32 31)).toInt32).toUInt32 >>> ((nI 2).toUInt32 &&& Int32.toUInt32 31)).toInt32) (n := 73) hC dJ6_numberOfTrailingZeros_0f7a4_72 rfl rfl ?_
            refine z_istore_n (lv' := [(0, .int (((((((((nI (mkF lf n)) ^^^ (-1)) &&& ((nI (mkF lf n)) - (nI 1))).toUInt32 >>> ((nI 16).toUInt32 &&& Int32.toUInt32 31)).toInt32).toUInt32 >>> ((nI 4).toUInt32 &&& Int32.toUInt32 31)).toInt32).toUInt32 >>> ((nI 2).toUInt32 &&& Int32.toUInt32 31)).toInt32)), (1, .int (nI 23))]) (n := 74) hC dJ6_numberOfTrailingZeros_0f7a4_73 rfl (by decide) rfl rfl ?_
            refine z_iload_n (n := 75) hC dJ6_numberOfTrailingZeros_0f7a4_74 rfl 1 rfl rfl ?_
            refine z_iload_n (n := 76) hC dJ6_numberOfTrailingZeros_0f7a4_75 rfl 0 rfl rfl ?_
            refine z_iconst (v := nI 1) (n := 77) hC dJ6_numberOfTrailingZeros_0f7a4_76 (by decide) rfl ?_
            refine z_iushr (v := ((((((((((nI (mkF lf n)) ^^^ (-1)) &&& ((nI (mkF lf n)) - (nI 1))).toUInt32 >>> ((nI 16).toUInt32 &&& Int32.toUInt32 31)).toInt32).toUInt32 >>> ((nI 4).toUInt32 &&& Int32.toUInt32 31)).toInt32).toUInt32 >>> ((nI 2).toUInt32 &&& Int32.toUInt32 31)).toInt32).toUInt32 >>> ((nI 1).toUInt32 &&& Int32.toUInt32 31)).toInt32) (n := 78) hC dJ6_numberOfTrailingZeros_0f7a4_77 rfl rfl ?_
            refine z_iadd (v := (nI 23) + (((((((((((nI (mkF lf n)) ^^^ (-1)) &&& ((nI (mkF lf n)) - (nI 1))).toUInt32 >>> ((nI 16).toUInt32 &&& Int32.toUInt32 31)).toInt32).toUInt32 >>> ((nI 4).toUInt32 &&& Int32.toUInt32 31)).toInt32).toUInt32 >>> ((nI 2).toUInt32 &&& Int32.toUInt32 31)).toInt32).toUInt32 >>> ((nI 1).toUInt32 &&& Int32.toUInt32 31)).toInt32)) (n := 79) hC dJ6_numberOfTrailingZeros_0f7a4_78 rfl rfl ?_
            refine z_iret hC hr hlocks () ?_ rfl dJ6_numberOfTrailingZeros_0f7a4_79 (by omega) (by omega)
            rw [tz_ok lf hn hx]
            have key : ∀ m : Nat, m < 64 → ((m ≠ 0 ∧ (0 < (((nI m) ^^^ (-1)) &&& ((nI m) - (nI 1)))) ∧ ¬ ((((nI m) ^^^ (-1)) &&& ((nI m) - (nI 1))) ≤ (65536 : Int32)) ∧ ((((((nI m) ^^^ (-1)) &&& ((nI m) - (nI 1))).toUInt32 >>> ((nI 16).toUInt32 &&& Int32.toUInt32 31)).toInt32) ≤ (nI 256)) ∧ ¬ ((((((nI m) ^^^ (-1)) &&& ((nI m) - (nI 1))).toUInt32 >>> ((nI 16).toUInt32 &&& Int32.toUInt32 31)).toInt32) ≤ (nI 16)) ∧ ¬ ((((((((nI m) ^^^ (-1)) &&& ((nI m) - (nI 1))).toUInt32 >>> ((nI 16).toUInt32 &&& Int32.toUInt32 31)).toInt32).toUInt32 >>> ((nI 4).toUInt32 &&& Int32.toUInt32 31)).toInt32) ≤ (nI 4))) → (nI 23) + (((((((((((nI m) ^^^ (-1)) &&& ((nI m) - (nI 1))).toUInt32 >>> ((nI 16).toUInt32 &&& Int32.toUInt32 31)).toInt32).toUInt32 >>> ((nI 4).toUInt32 &&& Int32.toUInt32 31)).toInt32).toUInt32 >>> ((nI 2).toUInt32 &&& Int32.toUInt32 31)).toInt32).toUInt32 >>> ((nI 1).toUInt32 &&& Int32.toUInt32 31)).toInt32) = nI (tzF m)) := by decide +kernel
            exact key _ (mkF_64 lf hn) ⟨mk_pos hx, c1, c2, c10, c11, c13⟩
      · refine z_iinc (k0 := 1) (v := nI 25) (lv' := [(1, .int (nI 25)), (0, .int (((((nI (mkF lf n)) ^^^ (-1)) &&& ((nI (mkF lf n)) - (nI 1))).toUInt32 >>> ((nI 16).toUInt32 &&& Int32.toUInt32 31)).toInt32))]) (n := 44) hC dJ6_numberOfTrailingZeros_0f7a4_41 rfl (nI_add 17 8) (by decide) rfl rfl ?_
        refine z_iload_n (n := 45) hC dJ6_numberOfTrailingZeros_0f7a4_44 rfl 1 rfl rfl ?_
        refine z_bipush (v := nI 8) (n := 47) hC dJ6_numberOfTrailingZeros_0f7a4_45 (by decide) rfl ?_
        refine z_iushr (v := ((((((nI (mkF lf n)) ^^^ (-1)) &&& ((nI (mkF lf n)) - (nI 1))).toUInt32 >>> ((nI 16).toUInt32 &&& Int32.toUInt32 31)).toInt32).toUInt32 >>> ((nI 8).toUInt32 &&& Int32.toUInt32 31)).toInt32) (n := 48) hC dJ6_numberOfTrailingZeros_0f7a4_47 rfl rfl ?_
        refine z_istore_n (lv' := [(0, .int (((((((nI (mkF lf n)) ^^^ (-1)) &&& ((nI (mkF lf n)) - (nI 1))).toUInt32 >>> ((nI 16).toUInt32 &&& Int32.toUInt32 31)).toInt32).toUInt32 >>> ((nI 8).toUInt32 &&& Int32.toUInt32 31)).toInt32)), (1, .int (nI 25))]) (n := 49) hC dJ6_numberOfTrailingZeros_0f7a4_48 rfl (by decide) rfl rfl ?_
        refine z_iload_n (n := 50) hC dJ6_numberOfTrailingZeros_0f7a4_49 rfl 0 rfl rfl ?_
        refine z_bipush (v := nI 16) (n := 52) hC dJ6_numberOfTrailingZeros_0f7a4_50 (by decide) rfl ?_
        refine z_icmp_le (tgt := 62) (n := 55) hC dJ6_numberOfTrailingZeros_0f7a4_52 (by decide) rfl (fun c14 => ?_) (fun c14 => ?_)
        · refine z_iload_n (n := 63) hC dJ6_numberOfTrailingZeros_0f7a4_62 rfl 0 rfl rfl ?_
          refine z_iconst (v := nI 4) (n := 64) hC dJ6_numberOfTrailingZeros_0f7a4_63 (by decide) rfl ?_
          refine z_icmp_le (tgt := 74) (n := 67) hC dJ6_numberOfTrailingZeros_0f7a4_64 (by decide) rfl (fun c15 => ?_) (fun c15 => ?_)
          · refine z_iload_n (n := 75) hC dJ6_numberOfTrailingZeros_0f7a4_74 rfl 1 rfl rfl ?_
            refine z_iload_n (n := 76) hC dJ6_numberOfTrailingZeros_0f7a4_75 rfl 0 rfl rfl ?_
            refine z_iconst (v := nI 1) (n := 77) hC dJ6_numberOfTrailingZeros_0f7a4_76 (by decide) rfl ?_
            refine z_iushr (v := ((((((((nI (mkF lf n)) ^^^ (-1)) &&& ((nI (mkF lf n)) - (nI 1))).toUInt32 >>> ((nI 16).toUInt32 &&& Int32.toUInt32 31)).toInt32).toUInt32 >>> ((nI 8).toUInt32 &&& Int32.toUInt32 31)).toInt32).toUInt32 >>> ((nI 1).toUInt32 &&& Int32.toUInt32 31)).toInt32) (n := 78) hC dJ6_numberOfTrailingZeros_0f7a4_77 rfl rfl ?_
            refine z_iadd (v := (nI 25) + (((((((((nI (mkF lf n)) ^^^ (-1)) &&& ((nI (mkF lf n)) - (nI 1))).toUInt32 >>> ((nI 16).toUInt32 &&& Int32.toUInt32 31)).toInt32).toUInt32 >>> ((nI 8).toUInt32 &&& Int32.toUInt32 31)).toInt32).toUInt32 >>> ((nI 1).toUInt32 &&& Int32.toUInt32 31)).toInt32)) (n := 79) hC dJ6_numberOfTrailingZeros_0f7a4_78 rfl rfl ?_
            refine z_iret hC hr hlocks () ?_ rfl dJ6_numberOfTrailingZeros_0f7a4_79 (by omega) (by omega)
            rw [tz_ok lf hn hx]
            have key : ∀ m : Nat, m < 64 → ((m ≠ 0 ∧ (0 < (((nI m) ^^^ (-1)) &&& ((nI m) - (nI 1)))) ∧ ¬ ((((nI m) ^^^ (-1)) &&& ((nI m) - (nI 1))) ≤ (65536 : Int32)) ∧ ¬ ((((((nI m) ^^^ (-1)) &&& ((nI m) - (nI 1))).toUInt32 >>> ((nI 16).toUInt32 &&& Int32.toUInt32 31)).toInt32) ≤ (nI 256)) ∧ ((((((((nI m) ^^^ (-1)) &&& ((nI m) - (nI 1))).toUInt32 >>> ((nI 16).toUInt32 &&& Int32.toUInt32 31)).toInt32).toUInt32 >>> ((nI 8).toUInt32 &&& Int32.toUInt32 31)).toInt32) ≤ (nI 16)) ∧ ((((((((nI m) ^^^ (-1)) &&& ((nI m) - (nI 1))).toUInt32 >>> ((nI 16).toUInt32 &&& Int32.toUInt32 31)).toInt32).toUInt32 >>> ((nI 8).toUInt32 &&& Int32.toUInt32 31)).toInt32) ≤ (nI 4))) → (nI 25) + (((((((((nI m) ^^^ (-1)) &&& ((nI m) - (nI 1))).toUInt32 >>> ((nI 16).toUInt32 &&& Int32.toUInt32 31)).toInt32).toUInt32 >>> ((nI 8).toUInt32 &&& Int32.toUInt32 31)).toInt32).toUInt32 >>> ((nI 1).toUInt32 &&& Int32.toUInt32 31)).toInt32) = nI (tzF m)) := by decide +kernel
            exact key _ (mkF_64 lf hn) ⟨mk_pos hx, c1, c2, c10, c14, c15⟩
          · refine z_iinc (k0 := 1) (v := nI 27) (lv' := [(1, .int (nI 27)), (0, .int (((((((nI (mkF lf n)) ^^^ (-1)) &&& ((nI (mkF lf n)) - (nI 1))).toUInt32 >>> ((nI 16).toUInt32 &&& Int32.toUInt32 31)).toInt32).toUInt32 >>> ((nI 8).toUInt32 &&& Int32.toUInt32 31)).toInt32))]) (n := 70) hC dJ6_numberOfTrailingZeros_0f7a4_67 rfl (nI_add 25 2) (by decide) rfl rfl ?_
            refine z_iload_n (n := 71) hC dJ6_numberOfTrailingZeros_0f7a4_70 rfl 1 rfl rfl ?_
            refine z_iconst (v := nI 2) (n := 72) hC dJ6_numberOfTrailingZeros_0f7a4_71 (by decide) rfl ?_
            refine z_iushr (v := ((((((((nI (mkF lf n)) ^^^ (-1)) &&& ((nI (mkF lf n)) - (nI 1))).toUInt32 >>> ((nI 16).toUInt32 &&& Int32.toUInt32 31)).toInt32).toUInt32 >>> ((nI 8).toUInt32 &&& Int32.toUInt32 31)).toInt32).toUInt32 >>> ((nI 2).toUInt32 &&& Int32.toUInt32 31)).toInt32) (n := 73) hC dJ6_numberOfTrailingZeros_0f7a4_72 rfl rfl ?_
            refine z_istore_n (lv' := [(0, .int (((((((((nI (mkF lf n)) ^^^ (-1)) &&& ((nI (mkF lf n)) - (nI 1))).toUInt32 >>> ((nI 16).toUInt32 &&& Int32.toUInt32 31)).toInt32).toUInt32 >>> ((nI 8).toUInt32 &&& Int32.toUInt32 31)).toInt32).toUInt32 >>> ((nI 2).toUInt32 &&& Int32.toUInt32 31)).toInt32)), (1, .int (nI 27))]) (n := 74) hC dJ6_numberOfTrailingZeros_0f7a4_73 rfl (by decide) rfl rfl ?_
            refine z_iload_n (n := 75) hC dJ6_numberOfTrailingZeros_0f7a4_74 rfl 1 rfl rfl ?_
            refine z_iload_n (n := 76) hC dJ6_numberOfTrailingZeros_0f7a4_75 rfl 0 rfl rfl ?_
            refine z_iconst (v := nI 1) (n := 77) hC dJ6_numberOfTrailingZeros_0f7a4_76 (by decide) rfl ?_
            refine z_iushr (v := ((((((((((nI (mkF lf n)) ^^^ (-1)) &&& ((nI (mkF lf n)) - (nI 1))).toUInt32 >>> ((nI 16).toUInt32 &&& Int32.toUInt32 31)).toInt32).toUInt32 >>> ((nI 8).toUInt32 &&& Int32.toUInt32 31)).toInt32).toUInt32 >>> ((nI 2).toUInt32 &&& Int32.toUInt32 31)).toInt32).toUInt32 >>> ((nI 1).toUInt32 &&& Int32.toUInt32 31)).toInt32) (n := 78) hC dJ6_numberOfTrailingZeros_0f7a4_77 rfl rfl ?_
            refine z_iadd (v := (nI 27) + (((((((((((nI (mkF lf n)) ^^^ (-1)) &&& ((nI (mkF lf n)) - (nI 1))).toUInt32 >>> ((nI 16).toUInt32 &&& Int32.toUInt32 31)).toInt32).toUInt32 >>> ((nI 8).toUInt32 &&& Int32.toUInt32 31)).toInt32).toUInt32 >>> ((nI 2).toUInt32 &&& Int32.toUInt32 31)).toInt32).toUInt32 >>> ((nI 1).toUInt32 &&& Int32.toUInt32 31)).toInt32)) (n := 79) hC dJ6_numberOfTrailingZeros_0f7a4_78 rfl rfl ?_
            refine z_iret hC hr hlocks () ?_ rfl dJ6_numberOfTrailingZeros_0f7a4_79 (by omega) (by omega)
            rw [tz_ok lf hn hx]
            have key : ∀ m : Nat, m < 64 → ((m ≠ 0 ∧ (0 < (((nI m) ^^^ (-1)) &&& ((nI m) - (nI 1)))) ∧ ¬ ((((nI m) ^^^ (-1)) &&& ((nI m) - (nI 1))) ≤ (65536 : Int32)) ∧ ¬ ((((((nI m) ^^^ (-1)) &&& ((nI m) - (nI 1))).toUInt32 >>> ((nI 16).toUInt32 &&& Int32.toUInt32 31)).toInt32) ≤ (nI 256)) ∧ ((((((((nI m) ^^^ (-1)) &&& ((nI m) - (nI 1))).toUInt32 >>> ((nI 16).toUInt32 &&& Int32.toUInt32 31)).toInt32).toUInt32 >>> ((nI 8).toUInt32 &&& Int32.toUInt32 31)).toInt32) ≤ (nI 16)) ∧ ¬ ((((((((nI m) ^^^ (-1)) &&& ((nI m) - (nI 1))).toUInt32 >>> ((nI 16).toUInt32 &&& Int32.toUInt32 31)).toInt32).toUInt32 >>> ((nI 8).toUInt32 &&& Int32.toUInt32 31)).toInt32) ≤ (nI 4))) → (nI 27) + (((((((((((nI m) ^^^ (-1)) &&& ((nI m) - (nI 1))).toUInt32 >>> ((nI 16).toUInt32 &&& Int32.toUInt32 31)).toInt32).toUInt32 >>> ((nI 8).toUInt32 &&& Int32.toUInt32 31)).toInt32).toUInt32 >>> ((nI 2).toUInt32 &&& Int32.toUInt32 31)).toInt32).toUInt32 >>> ((nI 1).toUInt32 &&& Int32.toUInt32 31)).toInt32) = nI (tzF m)) := by decide +kernel
            exact key _ (mkF_64 lf hn) ⟨mk_pos hx, c1, c2, c10, c14, c15⟩
        · refine z_iinc (k0 := 1) (v := nI 29) (lv' := [(1, .int (nI 29)), (0, .int (((((((nI (mkF lf n)) ^^^ (-1)) &&& ((nI (mkF lf n)) - (nI 1))).toUInt32 >>> ((nI 16).toUInt32 &&& Int32.toUInt32 31)).toInt32).toUInt32 >>> ((nI 8).toUInt32 &&& Int32.toUInt32 31)).toInt32))]) (n := 58) hC dJ6_numberOfTrailingZeros_0f7a4_55 rfl (nI_add 25 4) (by decide) rfl rfl ?_
          refine z_iload_n (n := 59) hC dJ6_numberOfTrailingZeros_0f7a4_58 rfl 1 rfl rfl ?_
          refine z_iconst (v := nI 4) (n := 60) hC dJ6_numberOfTrailingZeros_0f7a4_59 (by decide) rfl ?_
          refine z_iushr (v := ((((((((nI (mkF lf n)) ^^^ (-1)) &&& ((nI (mkF lf n)) - (nI 1))).toUInt32 >>> ((nI 16).toUInt32 &&& Int32.toUInt32 31)).toInt32).toUInt32 >>> ((nI 8).toUInt32 &&& Int32.toUInt32 31)).toInt32).toUInt32 >>> ((nI 4).toUInt32 &&& Int32.toUInt32 31)).toInt32) (n := 61) hC dJ6_numberOfTrailingZeros_0f7a4_60 rfl rfl ?_
          refine z_istore_n (lv' := [(0, .int (((((((((nI (mkF lf n)) ^^^ (-1)) &&& ((nI (mkF lf n)) - (nI 1))).toUInt32 >>> ((nI 16).toUInt32 &&& Int32.toUInt32 31)).toInt32).toUInt32 >>> ((nI 8).toUInt32 &&& Int32.toUInt32 31)).toInt32).toUInt32 >>> ((nI 4).toUInt32 &&& Int32.toUInt32 31)).toInt32)), (1, .int (nI 29))]) (n := 62) hC dJ6_numberOfTrailingZeros_0f7a4_61 rfl (by decide) rfl rfl ?_
          refine z_iload_n (n := 63) hC dJ6_numberOfTrailingZeros_0f7a4_62 rfl 0 rfl rfl ?_
          refine z_iconst (v := nI 4) (n := 64) hC dJ6_numberOfTrailingZeros_0f7a4_63 (by decide) rfl ?_
          refine z_icmp_le (tgt := 74) (n := 67) hC dJ6_numberOfTrailingZeros_0f7a4_64 (by decide) rfl (fun c16 => ?_) (fun c16 => ?_)
          · refine z_iload_n (n := 75) hC dJ6_numberOfTrailingZeros_0f7a4_74 rfl 1 rfl rfl ?_
            refine z_iload_n (n := 76) hC dJ6_numberOfTrailingZeros_0f7a4_75 rfl 0 rfl rfl ?_
            refine z_iconst (v := nI 1) (n := 77) hC dJ6_numberOfTrailingZeros_0f7a4_76 (by decide) rfl ?_
            refine z_iushr (v := ((((((((((nI (mkF lf n)) ^^^ (-1)) &&& ((nI (mkF lf n)) - (nI 1))).toUInt32 >>> ((nI 16).toUInt32 &&& Int32.toUInt32 31)).toInt32).toUInt32 >>> ((nI 8).toUInt32 &&& Int32.toUInt32 31)).toInt32).toUInt32 >>> ((nI 4).toUInt32 &&& Int32.toUInt32 31)).toInt32).toUInt32 >>> ((nI 1).toUInt32 &&& Int32.toUInt32 31)).toInt32) (n := 78) hC dJ6_numberOfTrailingZeros_0f7a4_77 rfl rfl ?_
            refine z_iadd (v := (nI 29) + (((((((((((nI (mkF lf n)) ^^^ (-1)) &&& ((nI (mkF lf n)) - (nI 1))).toUInt32 >>> ((nI 16).toUInt32 &&& Int32.toUInt32 31)).toInt32).toUInt32 >>> ((nI 8).toUInt32 &&& Int32.toUInt32 31)).toInt32).toUInt32 >>> ((nI 4).toUInt32 &&& Int32.toUInt32 31)).toInt32).toUInt32 >>> ((nI 1).toUInt32 &&& Int32.toUInt32 31)).toInt32)) (n := 79) hC dJ6_numberOfTrailingZeros_0f7a4_78 rfl rfl ?_
            refine z_iret hC hr hlocks () ?_ rfl dJ6_numberOfTrailingZeros_0f7a4_79 (by omega) (by omega)
            rw [tz_ok lf hn hx]
            have key : ∀ m : Nat, m < 64 → ((m ≠ 0 ∧ (0 < (((nI m) ^^^ (-1)) &&& ((nI m) - (nI 1)))) ∧ ¬ ((((nI m) ^^^ (-1)) &&& ((nI m) - (nI 1))) ≤ (65536 : Int32)) ∧ ¬ ((((((nI m) ^^^ (-1)) &&& ((nI m) - (nI 1))).toUInt32 >>> ((nI 16).toUInt32 &&& Int32.toUInt32 31)).toInt32) ≤ (nI 256)) ∧ ¬ ((((((((nI m) ^^^ (-1)) &&& ((nI m) - (nI 1))).toUInt32 >>> ((nI 16).toUInt32 &&& Int32.toUInt32 31)).toInt32).toUInt32 >>> ((nI 8).toUInt32 &&& Int32.toUInt32 31)).toInt32) ≤ (nI 16)) ∧ ((((((((((nI m) ^^^ (-1)) &&& ((nI m) - (nI 1))).toUInt32 >>> ((nI 16).toUInt32 &&& Int32.toUInt32 31)).toInt32).toUInt32 >>> ((nI 8).toUInt32 &&& Int32.toUInt32 31)).toInt32).toUInt32 >>> ((nI 4).toUInt32 &&& Int32.toUInt32 31)).toInt32) ≤ (nI 4))) → (nI 29) + (((((((((((nI m) ^^^ (-1)) &&& ((nI m) - (nI 1))).toUInt32 >>> ((nI 16).toUInt32 &&& Int32.toUInt32 31)).toInt32).toUInt32 >>> ((nI 8).toUInt32 &&& Int32.toUInt32 31)).toInt32).toUInt32 >>> ((nI 4).toUInt32 &&& Int32.toUInt32 31)).toInt32).toUInt32 >>> ((nI 1).toUInt32 &&& Int32.toUInt32 31)).toInt32) = nI (tzF m)) := by decide +kernel
            exact key _ (mkF_64 lf hn) ⟨mk_pos hx, c1, c2, c10, c14, c16⟩
          · refine z_iinc (k0 := 1) (v := nI 31) (lv' := [(1, .int (nI 31)), (0, .int (((((((((nI (mkF lf n)) ^^^ (-1)) &&& ((nI (mkF lf n)) - (nI 1))).toUInt32 >>> ((nI 16).toUInt32 &&& Int32.toUInt32 31)).toInt32).toUInt32 >>> ((nI 8).toUInt32 &&& Int32.toUInt32 31)).toInt32).toUInt32 >>> ((nI 4).toUInt32 &&& Int32.toUInt32 31)).toInt32))]) (n := 70) hC dJ6_numberOfTrailingZeros_0f7a4_67 rfl (nI_add 29 2) (by decide) rfl rfl ?_
            refine z_iload_n (n := 71) hC dJ6_numberOfTrailingZeros_0f7a4_70 rfl 1 rfl rfl ?_
            refine z_iconst (v := nI 2) (n := 72) hC dJ6_numberOfTrailingZeros_0f7a4_71 (by decide) rfl ?_
            refine z_iushr (v := ((((((((((nI (mkF lf n)) ^^^ (-1)) &&& ((nI (mkF lf n)) - (nI 1))).toUInt32 >>> ((nI 16).toUInt32 &&& Int32.toUInt32 31)).toInt32).toUInt32 >>> ((nI 8).toUInt32 &&& Int32.toUInt32 31)).toInt32).toUInt32 >>> ((nI 4).toUInt32 &&& Int32.toUInt32 31)).toInt32).toUInt32 >>> ((nI 2).toUInt32 &&& Int32.toUInt32 31)).toInt32) (n := 73) hC dJ6_numberOfTrailingZeros_0f7a4_72 rfl rfl ?_
            refine z_istore_n (lv' := [(0, .int (((((((((((nI (mkF lf n)) ^^^ (-1)) &&& ((nI (mkF lf n)) - (nI 1))).toUInt32 >>> ((nI 16).toUInt32 &&& Int32.toUInt32 31)).toInt32).toUInt32 >>> ((nI 8).toUInt32 &&& Int32.toUInt32 31)).toInt32).toUInt32 >>> ((nI 4).toUInt32 &&& Int32.toUInt32 31)).toInt32).toUInt32 >>> ((nI 2).toUInt32 &&& Int32.toUInt32 31)).toInt32)), (1, .int (nI 31))]) (n := 74) hC dJ6_numberOfTrailingZeros_0f7a4_73 rfl (by decide) rfl rfl ?_
            refine z_iload_n (n := 75) hC dJ6_numberOfTrailingZeros_0f7a4_74 rfl 1 rfl rfl ?_
            refine z_iload_n (n := 76) hC dJ6_numberOfTrailingZeros_0f7a4_75 rfl 0 rfl rfl ?_
            refine z_iconst (v := nI 1) (n := 77) hC dJ6_numberOfTrailingZeros_0f7a4_76 (by decide) rfl ?_
            refine z_iushr (v := ((((((((((((nI (mkF lf n)) ^^^ (-1)) &&& ((nI (mkF lf n)) - (nI 1))).toUInt32 >>> ((nI 16).toUInt32 &&& Int32.toUInt32 31)).toInt32).toUInt32 >>> ((nI 8).toUInt32 &&& Int32.toUInt32 31)).toInt32).toUInt32 >>> ((nI 4).toUInt32 &&& Int32.toUInt32 31)).toInt32).toUInt32 >>> ((nI 2).toUInt32 &&& Int32.toUInt32 31)).toInt32).toUInt32 >>> ((nI 1).toUInt32 &&& Int32.toUInt32 31)).toInt32) (n := 78) hC dJ6_numberOfTrailingZeros_0f7a4_77 rfl rfl ?_
            refine z_iadd (v := (nI 31) + (((((((((((((nI (mkF lf n)) ^^^ (-1)) &&& ((nI (mkF lf n)) - (nI 1))).toUInt32 >>> ((nI 16).toUInt32 &&& Int32.toUInt32 31)).toInt32).toUInt32 >>> ((nI 8).toUInt32 &&& Int32.toUInt32 31)).toInt32).toUInt32 >>> ((nI 4).toUInt32 &&& Int32.toUInt32 31)).toInt32).toUInt32 >>> ((nI 2).toUInt32 &&& Int32.toUInt32 31)).toInt32).toUInt32 >>> ((nI 1).toUInt32 &&& Int32.toUInt32 31)).toInt32)) (n := 79) hC dJ6_numberOfTrailingZeros_0f7a4_78 rfl rfl ?_
            refine z_iret hC hr hlocks () ?_ rfl dJ6_numberOfTrailingZeros_0f7a4_79 (by omega) (by omega)
            rw [tz_ok lf hn hx]
            have key : ∀ m : Nat, m < 64 → ((m ≠ 0 ∧ (0 < (((nI m) ^^^ (-1)) &&& ((nI m) - (nI 1)))) ∧ ¬ ((((nI m) ^^^ (-1)) &&& ((nI m) - (nI 1))) ≤ (65536 : Int32)) ∧ ¬ ((((((nI m) ^^^ (-1)) &&& ((nI m) - (nI 1))).toUInt32 >>> ((nI 16).toUInt32 &&& Int32.toUInt32 31)).toInt32) ≤ (nI 256)) ∧ ¬ ((((((((nI m) ^^^ (-1)) &&& ((nI m) - (nI 1))).toUInt32 >>> ((nI 16).toUInt32 &&& Int32.toUInt32 31)).toInt32).toUInt32 >>> ((nI 8).toUInt32 &&& Int32.toUInt32 31)).toInt32) ≤ (nI 16)) ∧ ¬ ((((((((((nI m) ^^^ (-1)) &&& ((nI m) - (nI 1))).toUInt32 >>> ((nI 16).toUInt32 &&& Int32.toUInt32 31)).toInt32).toUInt32 >>> ((nI 8).toUInt32 &&& Int32.toUInt32 31)).toInt32).toUInt32 >>> ((nI 4).toUInt32 &&& Int32.toUInt32 31)).toInt32) ≤ (nI 4))) → (nI 31) + (((((((((((((nI m) ^^^ (-1)) &&& ((nI m) - (nI 1))).toUInt32 >>> ((nI 16).toUInt32 &&& Int32.toUInt32 31)).toInt32).toUInt32 >>> ((nI 8).toUInt32 &&& Int32.toUInt32 31)).toInt32).toUInt32 >>> ((nI 4).toUInt32 &&& Int32.toUInt32 31)).toInt32).toUInt32 >>> ((nI 2).toUInt32 &&& Int32.toUInt32 31)).toInt32).toUInt32 >>> ((nI 1).toUInt32 &&& Int32.toUInt32 31)).toInt32) = nI (tzF m)) := by decide +kernel
            exact key _ (mkF_64 lf hn) ⟨mk_pos hx, c1, c2, c10, c14, c16⟩
  · refine z_iload_n (n := 13) hC dJ6_numberOfTrailingZeros_0f7a4_12 rfl 0 rfl rfl ?_
    refine z_bipush (v := nI 32) (n := 15) hC dJ6_numberOfTrailingZeros_0f7a4_13 (by decide) rfl ?_
    refine z_iand (v := (((nI (mkF lf n)) ^^^ (-1)) &&& ((nI (mkF lf n)) - (nI 1))) &&& (nI 32)) (n := 16) hC dJ6_numberOfTrailingZeros_0f7a4_15 rfl rfl ?_
    refine z_iret hC hr hlocks () ?_ rfl dJ6_numberOfTrailingZeros_0f7a4_16 (by omega) (by omega)
    rw [tz_ok lf hn hx]
    have key : ∀ m : Nat, m < 64 → ((m ≠ 0 ∧ ¬ (0 < (((nI m) ^^^ (-1)) &&& ((nI m) - (nI 1))))) → (((nI m) ^^^ (-1)) &&& ((nI m) - (nI 1))) &&& (nI 32) = nI (tzF m)) := by decide +kernel
    exact key _ (mkF_64 lf hn) ⟨mk_pos hx, c1⟩

set_option maxRecDepth 100000 in
set_option maxHeartbeats 4000000 in
theorem k_X3_thrown (l : Launch) (G : va_G) (cI cZ cJ : ClassId) (ma : Nat → Nat) (th : Int32) (n : Nat) (sw : Nat → Int32) (st : Nat → Int32) (b : Nat → Int32) (r : Nat → Int32) (T : Nat) (sc : Nat → Int32) (fi : Nat → Int32) (mi : Nat → Int32) (fa : Nat → Int32) (K : Nat → Int32) (hn : n ≤ 6) (hT : T < 2 ^ 29) : MI (Unit) l yX3_thrown cX3_thrown 1 0 0 G (tY cI cZ cJ) [.ref (ma 0)] (wN ma cI th n sw st b r T sc fi mi fa K) (fun zr _ => zr = th) (fun _ => wN ma cI th n sw st b r T sc fi mi fa K) 0 0 := by
  refine MI_of (by decide) (Nat.le_of_ble_eq_true rfl) [(0, .ref (ma 0))] rfl ?_
  intro p e s m below meth c hC hr hlocks hname
  have hC : Cx p s m _ c cX3_thrown 1 RX3 G (tY cI cZ cJ) _ := hC
  refine z_aload_n (n := 1) hC dX3_thrown_0 rfl 0 rfl rfl ?_
  refine gf_X3_28 (v := .int th) (n := 4) hC 0 rfl rfl dX3_thrown_1 rfl ?_
  refine z_iret hC hr hlocks () ?_ rfl dX3_thrown_4 (by omega) (by omega)
  rfl

set_option maxRecDepth 100000 in
set_option maxHeartbeats 4000000 in
theorem k_X3_no (l : Launch) (G : va_G) (cI cZ cJ : ClassId) (ma : Nat → Nat) (th : Int32) (n : Nat) (sw : Nat → Int32) (st : Nat → Int32) (b : Nat → Int32) (r : Nat → Int32) (T : Nat) (sc : Nat → Int32) (fi : Nat → Int32) (mi : Nat → Int32) (fa : Nat → Int32) (K : Nat → Int32) (x : Int32) (hn : n ≤ 6) (hT : T < 2 ^ 29) : MI (Unit) l yX3_no cX3_no 2 0 0 G (tY cI cZ cJ) [.ref (ma 0), .int x] (wN ma cI th n sw st b r T sc fi mi fa K) (fun zr _ => zr = nI 0) (fun _ => wN ma cI x n sw st b r T sc fi mi fa K) 0 0 := by
  refine MI_of (by decide) (Nat.le_of_ble_eq_true rfl) [(0, .ref (ma 0)), (1, .int x)] rfl ?_
  intro p e s m below meth c hC hr hlocks hname
  have hC : Cx p s m _ c cX3_no 2 RX3 G (tY cI cZ cJ) _ := hC
  refine z_aload_n (n := 1) hC dX3_no_0 rfl 0 rfl rfl ?_
  refine z_iload_n (n := 2) hC dX3_no_1 rfl 1 rfl rfl ?_
  refine pf_X3_28 (ws' := wN ma cI x n sw st b r T sc fi mi fa K) (n := 5) hC 0 rfl (Nat.le_of_ble_eq_true rfl) dX3_no_2 rfl rfl ?_
  refine z_iconst (v := nI 0) (n := 6) hC dX3_no_5 (by decide) rfl ?_
  refine z_iret hC hr hlocks () ?_ rfl dX3_no_6 (by omega) (by omega)
  rfl

set_option maxRecDepth 100000 in
set_option maxHeartbeats 4000000 in
theorem k_X3_ok (l : Launch) (G : va_G) (cI cZ cJ : ClassId) (ma : Nat → Nat) (th : Int32) (n : Nat) (sw : Nat → Int32) (st : Nat → Int32) (b : Nat → Int32) (r : Nat → Int32) (T : Nat) (sc : Nat → Int32) (fi : Nat → Int32) (mi : Nat → Int32) (fa : Nat → Int32) (K : Nat → Int32) (x : Int32) (hn : n ≤ 6) (hT : T < 2 ^ 29) : MI (Unit) l yX3_ok cX3_ok 2 0 0 G (tY cI cZ cJ) [.ref (ma 0), .int x] (wN ma cI th n sw st b r T sc fi mi fa K) (fun zr _ => zr = x) (fun _ => wN ma cI (nI 0) n sw st b r T sc fi mi fa K) 0 0 := by
  refine MI_of (by decide) (Nat.le_of_ble_eq_true rfl) [(0, .ref (ma 0)), (1, .int x)] rfl ?_
  intro p e s m below meth c hC hr hlocks hname
  have hC : Cx p s m _ c cX3_ok 2 RX3 G (tY cI cZ cJ) _ := hC
  refine z_aload_n (n := 1) hC dX3_ok_0 rfl 0 rfl rfl ?_
  refine z_iconst (v := nI 0) (n := 2) hC dX3_ok_1 (by decide) rfl ?_
  refine pf_X3_28 (ws' := wN ma cI (nI 0) n sw st b r T sc fi mi fa K) (n := 5) hC 0 rfl (Nat.le_of_ble_eq_true rfl) dX3_ok_2 rfl rfl ?_
  refine z_iload_n (n := 6) hC dX3_ok_5 rfl 1 rfl rfl ?_
  refine z_iret hC hr hlocks () ?_ rfl dX3_ok_6 (by omega) (by omega)
  rfl

set_option maxRecDepth 100000 in
set_option maxHeartbeats 4000000 in
theorem k_X3_isFrom (l : Launch) (G : va_G) (cI cZ cJ : ClassId) (x : Int32) (y : Int32) (z : Int32)  : MB (Unit) l yX3_isFrom cX3_isFrom 3 0 0 G (tY cI cZ cJ) [.int x, .int y, .int z] ([]) (fun zr _ => zr = bN (decide (¬ x < y ∧ ¬ z < x))) (fun _ => []) 0 0 := by
  refine MB_of (by decide) (Nat.le_of_ble_eq_true rfl) [(0, .int x), (1, .int y), (2, .int z)] rfl ?_
  intro p e s m below meth c hC hr hlocks hname
  have hC : Cx p s m _ c cX3_isFrom 3 RX3 G (tY cI cZ cJ) _ := hC
  refine z_iload_n (n := 1) hC dX3_isFrom_0 rfl 0 rfl rfl ?_
  refine z_iload_n (n := 2) hC dX3_isFrom_1 rfl 1 rfl rfl ?_
  refine z_icmp_lt (tgt := 14) (n := 5) hC dX3_isFrom_2 (by decide) rfl (fun c1 => ?_) (fun c1 => ?_)
  · refine z_iconst (v := nI 0) (n := 15) hC dX3_isFrom_14 (by decide) rfl ?_
    refine z_zret hC hr hlocks () ?_ rfl dX3_isFrom_15 (by omega) (by omega)
    refine ⟨?_, ?_⟩
    · first | exact narr_b (b := true) | exact narr_b (b := false)
    · simp [bN, c1]
  · refine z_iload_n (n := 6) hC dX3_isFrom_5 rfl 0 rfl rfl ?_
    refine z_iload_n (n := 7) hC dX3_isFrom_6 rfl 2 rfl rfl ?_
    refine z_icmp_gt (tgt := 14) (n := 10) hC dX3_isFrom_7 (by decide) rfl (fun c2 => ?_) (fun c2 => ?_)
    · refine z_iconst (v := nI 0) (n := 15) hC dX3_isFrom_14 (by decide) rfl ?_
      refine z_zret hC hr hlocks () ?_ rfl dX3_isFrom_15 (by omega) (by omega)
      refine ⟨?_, ?_⟩
      · first | exact narr_b (b := true) | exact narr_b (b := false)
      · simp [bN, c1, c2]
    · refine z_iconst (v := nI 1) (n := 11) hC dX3_isFrom_10 (by decide) rfl ?_
      refine z_goto (n := 15) hC dX3_isFrom_11 (by decide) ?_
      refine z_zret hC hr hlocks () ?_ rfl dX3_isFrom_15 (by omega) (by omega)
      refine ⟨?_, ?_⟩
      · first | exact narr_b (b := true) | exact narr_b (b := false)
      · simp [bN, c1, c2]

set_option maxRecDepth 100000 in
set_option maxHeartbeats 4000000 in
theorem k_X3_isGun (l : Launch) (G : va_G) (cI cZ cJ : ClassId) (ma : Nat → Nat) (th : Int32) (n : Nat) (sw : Nat → Int32) (st : Nat → Int32) (b : Nat → Int32) (r : Nat → Int32) (T : Nat) (sc : Nat → Int32) (fi : Nat → Int32) (mi : Nat → Int32) (fa : Nat → Int32) (K : Nat → Int32) (x : Int32) (hn : n ≤ 6) (hT : T < 2 ^ 29) : MB (Unit) l yX3_isGun cX3_isGun 2 1 22 G (tY cI cZ cJ) [.ref (ma 0), .int x] (wN ma cI th n sw st b r T sc fi mi fa K) (fun zr _ => zr = bN (decide (¬ x < nI 0 ∧ ¬ nI n - nI 1 < x))) (fun _ => wN ma cI th n sw st b r T sc fi mi fa K) 0 0 := by
  refine MB_of (by decide) (Nat.le_of_ble_eq_true rfl) [(0, .ref (ma 0)), (1, .int x)] rfl ?_
  intro p e s m below meth c hC hr hlocks hname
  have hC : Cx p s m _ c cX3_isGun 2 RX3 G (tY cI cZ cJ) _ := hC
  refine z_iload_n (n := 1) hC dX3_isGun_0 rfl 1 rfl rfl ?_
  refine z_iconst (v := nI 0) (n := 2) hC dX3_isGun_1 (by decide) rfl ?_
  refine z_aload_n (n := 3) hC dX3_isGun_2 rfl 0 rfl rfl ?_
  refine gf_X3_32 (v := .int (nI n)) (n := 6) hC 0 rfl rfl dX3_isGun_3 rfl ?_
  refine z_iconst (v := nI 1) (n := 7) hC dX3_isGun_6 (by decide) rfl ?_
  refine z_isub (v := (nI n) - (nI 1)) (n := 8) hC dX3_isGun_7 rfl rfl ?_
  refine z_callsb (R := { frames := 1, cells := 0, slots := 0, locals := 22 }) (cells := 0) (slots := 0) (ws := wN ma cI th n sw st b r T sc fi mi fa K) (n := 11) (As := [.int x, .int (nI 0), .int ((nI n) - (nI 1))]) (rest := []) hC (k_X3_isFrom l G cI cZ cJ x (nI 0) ((nI n) - (nI 1)) ) kg_X3_35 kd_yX3_isFrom dX3_isGun_8 ⟨Nat.le_of_ble_eq_true rfl, Nat.le_of_ble_eq_true rfl⟩ [] rfl (by decide) rfl (Nat.le_of_ble_eq_true rfl) ⟨Nat.le_of_ble_eq_true rfl, Nat.le_of_ble_eq_true rfl⟩ (ws2 := fun u1 => wN ma cI th n sw st b r T sc fi mi fa K) [0, 1, 2, 3, 4, 5, 6] (fun _ => rfl) (wN ma cI th n sw st b r T sc fi mi fa K) (fun _ => rfl) rfl (fun _ => rfl) [] (fun _ => rfl) rfl rfl rfl (fun r2 u1 h3 => ?_)
  subst h3
  refine z_zret hC hr hlocks () ?_ rfl dX3_isGun_11 (by omega) (by omega)
  exact ⟨narr_b, rfl⟩

set_option maxRecDepth 100000 in
set_option maxHeartbeats 4000000 in
theorem k_X3_keep (l : Launch) (G : va_G) (cI cZ cJ : ClassId) (ma : Nat → Nat) (th : Int32) (n : Nat) (sw : Nat → Int32) (st : Nat → Int32) (b : Nat → Int32) (r : Nat → Int32) (T : Nat) (sc : Nat → Int32) (fi : Nat → Int32) (mi : Nat → Int32) (fa : Nat → Int32) (K : Nat → Int32) (hn : n ≤ 6) (hT : T < 2 ^ 29) : MV (Unit) l yX3_keep cX3_keep 1 1 18 G (tY cI cZ cJ) [.ref (ma 0)] (wN ma cI th n sw st b r T sc fi mi fa K) (fun _ => True) (fun _ => wN ma cI th n sw st b r T sc fi mi fa (va_cpy (nowF T sc fi mi fa) K 0 0 25)) 0 0 := by
  refine MV_of (by decide) (Nat.le_of_ble_eq_true rfl) [(0, .ref (ma 0))] rfl ?_
  intro p e s m below meth c hC hr hlocks hname
  have hC : Cx p s m _ c cX3_keep 1 RX3 G (tY cI cZ cJ) _ := hC
  refine z_aload_n (n := 1) hC dX3_keep_0 rfl 0 rfl rfl ?_
  refine gf_X3_22 (v := .ref (ma 5)) (n := 4) hC 0 rfl rfl dX3_keep_1 rfl ?_
  refine z_iconst (v := nI 0) (n := 5) hC dX3_keep_4 (by decide) rfl ?_
  refine z_aload_n (n := 6) hC dX3_keep_5 rfl 0 rfl rfl ?_
  refine gf_X3_25 (v := .ref (ma 6)) (n := 9) hC 0 rfl rfl dX3_keep_6 rfl ?_
  refine z_iconst (v := nI 0) (n := 10) hC dX3_keep_9 (by decide) rfl ?_
  refine z_bipush (v := nI 25) (n := 12) hC dX3_keep_10 (by decide) rfl ?_
  refine z_copy (ws' := wN ma cI th n sw st b r T sc fi mi fa (va_cpy (nowF (T) (sc) (fi) (mi) (fa)) K 0 0 25)) (n := 15) hC q559 q643 q642 q614 5 6 0 0 rfl rfl rfl rfl rfl rfl rfl (by decide) (Nat.le_of_ble_eq_true rfl) dX3_keep_12 rfl rfl rfl ?_
  refine z_vret hC hr hlocks () ?_ rfl dX3_keep_15 (by omega) (by omega)
  trivial

set_option maxRecDepth 100000 in
set_option maxHeartbeats 4000000 in
theorem k_X3_bringBack (l : Launch) (G : va_G) (cI cZ cJ : ClassId) (ma : Nat → Nat) (th : Int32) (n : Nat) (sw : Nat → Int32) (st : Nat → Int32) (b : Nat → Int32) (r : Nat → Int32) (T : Nat) (sc : Nat → Int32) (fi : Nat → Int32) (mi : Nat → Int32) (fa : Nat → Int32) (K : Nat → Int32) (T0 : Nat) (sc0 : Nat → Int32) (fi0 : Nat → Int32) (mi0 : Nat → Int32) (fa0 : Nat → Int32) (htl : ∀ g, 6 ≤ g → fa g = fa0 g) : MV (Unit) l yX3_bringBack cX3_bringBack 1 1 18 G (tY cI cZ cJ) [.ref (ma 0)] (wN ma cI th n sw st b r T sc fi mi fa (va_cpy (nowF T0 sc0 fi0 mi0 fa0) K 0 0 25)) (fun _ => True) (fun _ => wN ma cI th n sw st b r T0 sc0 fi0 mi0 fa0 (va_cpy (nowF T0 sc0 fi0 mi0 fa0) K 0 0 25)) 0 0 := by
  refine MV_of (by decide) (Nat.le_of_ble_eq_true rfl) [(0, .ref (ma 0))] rfl ?_
  intro p e s m below meth c hC hr hlocks hname
  have hC : Cx p s m _ c cX3_bringBack 1 RX3 G (tY cI cZ cJ) _ := hC
  refine z_aload_n (n := 1) hC dX3_bringBack_0 rfl 0 rfl rfl ?_
  refine gf_X3_25 (v := .ref (ma 6)) (n := 4) hC 0 rfl rfl dX3_bringBack_1 rfl ?_
  refine z_iconst (v := nI 0) (n := 5) hC dX3_bringBack_4 (by decide) rfl ?_
  refine z_aload_n (n := 6) hC dX3_bringBack_5 rfl 0 rfl rfl ?_
  refine gf_X3_22 (v := .ref (ma 5)) (n := 9) hC 0 rfl rfl dX3_bringBack_6 rfl ?_
  refine z_iconst (v := nI 0) (n := 10) hC dX3_bringBack_9 (by decide) rfl ?_
  refine z_bipush (v := nI 25) (n := 12) hC dX3_bringBack_10 (by decide) rfl ?_
  refine z_copy (ws' := wN ma cI th n sw st b r T0 sc0 fi0 mi0 fa0 (va_cpy (nowF T0 sc0 fi0 mi0 fa0) K 0 0 25)) (n := 15) hC q559 q643 q642 q614 6 5 0 0 rfl rfl rfl rfl rfl rfl rfl (by decide) (Nat.le_of_ble_eq_true rfl) dX3_bringBack_12 (nw_back htl) rfl rfl ?_
  refine z_vret hC hr hlocks () ?_ rfl dX3_bringBack_15 (by omega) (by omega)
  trivial

set_option maxRecDepth 100000 in
set_option maxHeartbeats 4000000 in
theorem k_X3_at (l : Launch) (G : va_G) (cI cZ cJ : ClassId) (ma : Nat → Nat) (th : Int32) (n : Nat) (sw : Nat → Int32) (st : Nat → Int32) (b : Nat → Int32) (r : Nat → Int32) (T : Nat) (sc : Nat → Int32) (fi : Nat → Int32) (mi : Nat → Int32) (fa : Nat → Int32) (K : Nat → Int32) (s0 : Nat) (c0 : Nat) (hn : n ≤ 6) (hT : T < 2 ^ 29) (hs : s0 < 5) : MI (Unit) l yX3_at cX3_at 3 0 0 G (tY cI cZ cJ) [.ref (ma 0), .int (nI s0), .int (nI c0)] (wN ma cI th n sw st b r T sc fi mi fa K) (fun zr _ => zr = angF b r s0 c0) (fun _ => wN ma cI th n sw st b r T sc fi mi fa K) 0 0 := by
  refine MI_of (by decide) (Nat.le_of_ble_eq_true rfl) [(0, .ref (ma 0)), (1, .int (nI s0)), (2, .int (nI c0))] rfl ?_
  intro p e s m below meth c hC hr hlocks hname
  have hC : Cx p s m _ c cX3_at 3 RX3 G (tY cI cZ cJ) _ := hC
  refine z_aload_n (n := 1) hC dX3_at_0 rfl 0 rfl rfl ?_
  refine gf_X3_16 (v := .ref (ma 3)) (n := 4) hC 0 rfl rfl dX3_at_1 rfl ?_
  refine z_iload_n (n := 5) hC dX3_at_4 rfl 1 rfl rfl ?_
  refine z_iald (v := b s0) (n := 6) hC 3 0 s0 rfl rfl rfl (by omega) (by decide) dX3_at_5 rfl rfl ?_
  refine z_aload_n (n := 7) hC dX3_at_6 rfl 0 rfl rfl ?_
  refine gf_X3_19 (v := .ref (ma 4)) (n := 10) hC 0 rfl rfl dX3_at_7 rfl ?_
  refine z_iload_n (n := 11) hC dX3_at_10 rfl 1 rfl rfl ?_
  refine z_iald (v := r s0) (n := 12) hC 4 0 s0 rfl rfl rfl (by omega) (by decide) dX3_at_11 rfl rfl ?_
  refine z_iload_n (n := 13) hC dX3_at_12 rfl 2 rfl rfl ?_
  refine z_iconst (v := nI 2) (n := 14) hC dX3_at_13 (by decide) rfl ?_
  refine z_isub (v := (nI c0) - (nI 2)) (n := 15) hC dX3_at_14 rfl rfl ?_
  refine z_imul (v := (r s0) * ((nI c0) - (nI 2))) (n := 16) hC dX3_at_15 rfl rfl ?_
  refine z_iconst (v := nI 2) (n := 17) hC dX3_at_16 (by decide) rfl ?_
  refine z_idiv (v := ((r s0) * ((nI c0) - (nI 2))) / (nI 2)) (n := 18) hC dX3_at_17 (by decide) rfl rfl ?_
  refine z_iadd (v := (b s0) + (((r s0) * ((nI c0) - (nI 2))) / (nI 2))) (n := 19) hC dX3_at_18 rfl rfl ?_
  refine z_iret hC hr hlocks () ?_ rfl dX3_at_19 (by omega) (by omega)
  rfl

set_option maxRecDepth 100000 in
set_option maxHeartbeats 4000000 in
theorem k_X3_clay (l : Launch) (G : va_G) (cI cZ cJ : ClassId) (ma : Nat → Nat) (th : Int32) (n : Nat) (sw : Nat → Int32) (st : Nat → Int32) (b : Nat → Int32) (r : Nat → Int32) (T : Nat) (sc : Nat → Int32) (fi : Nat → Int32) (mi : Nat → Int32) (fa : Nat → Int32) (K : Nat → Int32) (hn : n ≤ 6) (hT : T < 2 ^ 29) : MI (Unit) l yX3_clay cX3_clay 1 0 0 G (tY cI cZ cJ) [.ref (ma 0)] (wN ma cI th n sw st b r T sc fi mi fa K) (fun zr _ => zr = nI (T % 5)) (fun _ => wN ma cI th n sw st b r T sc fi mi fa K) 0 0 := by
  refine MI_of (by decide) (Nat.le_of_ble_eq_true rfl) [(0, .ref (ma 0))] rfl ?_
  intro p e s m below meth c hC hr hlocks hname
  have hC : Cx p s m _ c cX3_clay 1 RX3 G (tY cI cZ cJ) _ := hC
  refine z_aload_n (n := 1) hC dX3_clay_0 rfl 0 rfl rfl ?_
  refine gf_X3_22 (v := .ref (ma 5)) (n := 4) hC 0 rfl rfl dX3_clay_1 rfl ?_
  refine z_iconst (v := nI 0) (n := 5) hC dX3_clay_4 (by decide) rfl ?_
  refine z_iald (v := nI T) (n := 6) hC 5 0 0 rfl rfl rfl (by omega) (by decide) dX3_clay_5 rfl rfl ?_
  refine z_iconst (v := nI 5) (n := 7) hC dX3_clay_6 (by decide) rfl ?_
  refine z_irem (v := nI (T % 5)) (n := 8) hC dX3_clay_7 (by decide) (pk_rem (by omega) (by omega) (by omega)) rfl ?_
  refine z_iret hC hr hlocks () ?_ rfl dX3_clay_8 (by omega) (by omega)
  rfl

set_option maxRecDepth 100000 in
set_option maxHeartbeats 4000000 in
theorem k_X3_stand (l : Launch) (G : va_G) (cI cZ cJ : ClassId) (ma : Nat → Nat) (th : Int32) (n : Nat) (sw : Nat → Int32) (st : Nat → Int32) (b : Nat → Int32) (r : Nat → Int32) (T : Nat) (sc : Nat → Int32) (fi : Nat → Int32) (mi : Nat → Int32) (fa : Nat → Int32) (K : Nat → Int32) (g : Nat) (hn : n ≤ 6) (hT : T < 2 ^ 29) (hg : g < 6) : MI (Unit) l yX3_stand cX3_stand 2 0 0 G (tY cI cZ cJ) [.ref (ma 0), .int (nI g)] (wN ma cI th n sw st b r T sc fi mi fa K) (fun zr _ => zr = nI (stF T g)) (fun _ => wN ma cI th n sw st b r T sc fi mi fa K) 0 0 := by
  refine MI_of (by decide) (Nat.le_of_ble_eq_true rfl) [(0, .ref (ma 0)), (1, .int (nI g))] rfl ?_
  intro p e s m below meth c hC hr hlocks hname
  have hC : Cx p s m _ c cX3_stand 2 RX3 G (tY cI cZ cJ) _ := hC
  refine z_iload_n (n := 1) hC dX3_stand_0 rfl 1 rfl rfl ?_
  refine z_aload_n (n := 2) hC dX3_stand_1 rfl 0 rfl rfl ?_
  refine gf_X3_22 (v := .ref (ma 5)) (n := 5) hC 0 rfl rfl dX3_stand_2 rfl ?_
  refine z_iconst (v := nI 0) (n := 6) hC dX3_stand_5 (by decide) rfl ?_
  refine z_iald (v := nI T) (n := 7) hC 5 0 0 rfl rfl rfl (by omega) (by decide) dX3_stand_6 rfl rfl ?_
  refine z_iconst (v := nI 5) (n := 8) hC dX3_stand_7 (by decide) rfl ?_
  refine z_idiv (v := nI (T / 5)) (n := 9) hC dX3_stand_8 (by decide) (pk_div (by omega) (by omega) (by omega)) rfl ?_
  refine z_iadd (v := nI (g + T / 5)) (n := 10) hC dX3_stand_9 (nI_add g (T / 5)) rfl ?_
  refine z_iconst (v := nI 5) (n := 11) hC dX3_stand_10 (by decide) rfl ?_
  refine z_irem (v := nI ((g + T / 5) % 5)) (n := 12) hC dX3_stand_11 (by decide) (pk_rem (by omega) (by omega) (by omega)) rfl ?_
  refine z_iret hC hr hlocks () ?_ rfl dX3_stand_12 (by omega) (by omega)
  rfl

set_option maxRecDepth 100000 in
set_option maxHeartbeats 4000000 in
theorem k_X3_far (l : Launch) (G : va_G) (cI cZ cJ : ClassId) (ma : Nat → Nat) (th : Int32) (n : Nat) (sw : Nat → Int32) (st : Nat → Int32) (b : Nat → Int32) (r : Nat → Int32) (T : Nat) (sc : Nat → Int32) (fi : Nat → Int32) (mi : Nat → Int32) (fa : Nat → Int32) (K : Nat → Int32) (g : Nat) (hn : n ≤ 6) (hT : T < 2 ^ 29) (hg : g < 6) : MI (Unit) l yX3_far cX3_far 2 1 22 G (tY cI cZ cJ) [.ref (ma 0), .int (nI g)] (wN ma cI th n sw st b r T sc fi mi fa K) (fun zr _ => zr = amF b r T g) (fun _ => wN ma cI th n sw st b r T sc fi mi fa K) 0 0 := by
  refine MI_of (by decide) (Nat.le_of_ble_eq_true rfl) [(0, .ref (ma 0)), (1, .int (nI g))] rfl ?_
  intro p e s m below meth c hC hr hlocks hname
  have hC : Cx p s m _ c cX3_far 2 RX3 G (tY cI cZ cJ) _ := hC
  refine z_aload_n (n := 1) hC dX3_far_0 rfl 0 rfl rfl ?_
  refine z_aload_n (n := 2) hC dX3_far_1 rfl 0 rfl rfl ?_
  refine z_iload_n (n := 3) hC dX3_far_2 rfl 1 rfl rfl ?_
  refine z_calli (R := { frames := 1, cells := 0, slots := 0, locals := 22 }) (cells := 0) (slots := 0) (ws := wN ma cI th n sw st b r T sc fi mi fa K) (n := 6) (As := [.int (nI g)]) (rest := [.ref (ma 0)]) hC (k_X3_stand l G cI cZ cJ ma th n sw st b r T sc fi mi fa K g (by omega) (by omega) (by omega)) kg_X3_45 kd_yX3_stand dX3_far_3 ⟨Nat.le_of_ble_eq_true rfl, Nat.le_of_ble_eq_true rfl⟩ 0 rfl rfl rfl [0, 1, 2, 3, 4, 5, 6] rfl (by decide) rfl (Nat.le_of_ble_eq_true rfl) ⟨Nat.le_of_ble_eq_true rfl, Nat.le_of_ble_eq_true rfl⟩ (ws2 := fun u1 => wN ma cI th n sw st b r T sc fi mi fa K) [] (fun _ => rfl) ([]) (fun _ => rfl) rfl (fun _ => rfl) [ma 0, ma 1, ma 2, ma 3, ma 4, ma 5, ma 6] (fun _ => rfl) rfl rfl rfl (fun r2 u1 h3 => ?_)
  subst h3
  refine z_aload_n (n := 7) hC dX3_far_6 rfl 0 rfl rfl ?_
  refine z_calli (R := { frames := 1, cells := 0, slots := 0, locals := 22 }) (cells := 0) (slots := 0) (ws := wN ma cI th n sw st b r T sc fi mi fa K) (n := 10) (As := []) (rest := [.int (nI (stF T g)), .ref (ma 0)]) hC (k_X3_clay l G cI cZ cJ ma th n sw st b r T sc fi mi fa K (by omega) (by omega)) kg_X3_49 kd_yX3_clay dX3_far_7 ⟨Nat.le_of_ble_eq_true rfl, Nat.le_of_ble_eq_true rfl⟩ 0 rfl rfl rfl [0, 1, 2, 3, 4, 5, 6] rfl (by decide) rfl (Nat.le_of_ble_eq_true rfl) ⟨Nat.le_of_ble_eq_true rfl, Nat.le_of_ble_eq_true rfl⟩ (ws2 := fun u4 => wN ma cI th n sw st b r T sc fi mi fa K) [] (fun _ => rfl) ([]) (fun _ => rfl) rfl (fun _ => rfl) [ma 0, ma 1, ma 2, ma 3, ma 4, ma 5, ma 6] (fun _ => rfl) rfl rfl rfl (fun r5 u4 h6 => ?_)
  subst h6
  refine z_calli (R := { frames := 1, cells := 0, slots := 0, locals := 22 }) (cells := 0) (slots := 0) (ws := wN ma cI th n sw st b r T sc fi mi fa K) (n := 13) (As := [.int (nI (stF T g)), .int (nI (T % 5))]) (rest := []) hC (k_X3_at l G cI cZ cJ ma th n sw st b r T sc fi mi fa K (stF T g) (T % 5) (by omega) (by omega) (Nat.mod_lt _ (by decide))) kg_X3_53 kd_yX3_at dX3_far_10 ⟨Nat.le_of_ble_eq_true rfl, Nat.le_of_ble_eq_true rfl⟩ 0 rfl rfl rfl [0, 1, 2, 3, 4, 5, 6] rfl (by decide) rfl (Nat.le_of_ble_eq_true rfl) ⟨Nat.le_of_ble_eq_true rfl, Nat.le_of_ble_eq_true rfl⟩ (ws2 := fun u7 => wN ma cI th n sw st b r T sc fi mi fa K) [] (fun _ => rfl) ([]) (fun _ => rfl) rfl (fun _ => rfl) [ma 0, ma 1, ma 2, ma 3, ma 4, ma 5, ma 6] (fun _ => rfl) rfl rfl rfl (fun r8 u7 h9 => ?_)
  subst h9
  refine z_mabs (v := absF (angF b r (stF T g) (T % 5))) (n := 16) hC q454 q637 q173 q639 (by decide) (Nat.le_of_ble_eq_true rfl) (by omega) (by omega) dX3_far_13 rfl rfl ?_
  refine z_iret hC hr hlocks () ?_ rfl dX3_far_16 (by omega) (by omega)
  rfl

set_option maxRecDepth 100000 in
set_option maxHeartbeats 4000000 in
theorem k_X3_hit (l : Launch) (G : va_G) (cI cZ cJ : ClassId) (ma : Nat → Nat) (th : Int32) (n : Nat) (sw : Nat → Int32) (st : Nat → Int32) (b : Nat → Int32) (r : Nat → Int32) (T : Nat) (sc : Nat → Int32) (fi : Nat → Int32) (mi : Nat → Int32) (fa : Nat → Int32) (K : Nat → Int32) (g : Nat) (hn : n ≤ 6) (hT : T < 2 ^ 29) (hg : g < n) (hst : ∀ g, g < n → nI 1 ≤ st g) : MI (Unit) l yX3_hit cX3_hit 2 2 43 G (tY cI cZ cJ) [.ref (ma 0), .int (nI g)] (wN ma cI th n sw st b r T sc fi mi fa K) (fun zr _ => zr = ouF (sw g) (st g) (fa g) (amF b r T g)) (fun _ => wN ma cI th n sw st b r T sc fi mi fa K) 0 0 := by
  refine MI_of (by decide) (Nat.le_of_ble_eq_true rfl) [(0, .ref (ma 0)), (1, .int (nI g))] rfl ?_
  intro p e s m below meth c hC hr hlocks hname
  have hC : Cx p s m _ c cX3_hit 2 RX3 G (tY cI cZ cJ) _ := hC
  refine z_aload_n (n := 1) hC dX3_hit_0 rfl 0 rfl rfl ?_
  refine z_iload_n (n := 2) hC dX3_hit_1 rfl 1 rfl rfl ?_
  refine z_calli (R := { frames := 2, cells := 0, slots := 0, locals := 43 }) (cells := 0) (slots := 0) (ws := wN ma cI th n sw st b r T sc fi mi fa K) (n := 5) (As := [.int (nI g)]) (rest := []) hC (k_X3_far l G cI cZ cJ ma th n sw st b r T sc fi mi fa K g (by omega) (by omega) (by omega)) kg_X3_62 kd_yX3_far dX3_hit_2 ⟨Nat.le_of_ble_eq_true rfl, Nat.le_of_ble_eq_true rfl⟩ 0 rfl rfl rfl [0, 1, 2, 3, 4, 5, 6] rfl (by decide) rfl (Nat.le_of_ble_eq_true rfl) ⟨Nat.le_of_ble_eq_true rfl, Nat.le_of_ble_eq_true rfl⟩ (ws2 := fun u1 => wN ma cI th n sw st b r T sc fi mi fa K) [] (fun _ => rfl) ([]) (fun _ => rfl) rfl (fun _ => rfl) [ma 0, ma 1, ma 2, ma 3, ma 4, ma 5, ma 6] (fun _ => rfl) rfl rfl rfl (fun r2 u1 h3 => ?_)
  subst h3
  refine z_aload_n (n := 6) hC dX3_hit_5 rfl 0 rfl rfl ?_
  refine gf_X3_22 (v := .ref (ma 5)) (n := 9) hC 0 rfl rfl dX3_hit_6 rfl ?_
  refine z_bipush (v := nI 19) (n := 11) hC dX3_hit_9 (by decide) rfl ?_
  refine z_iload_n (n := 12) hC dX3_hit_11 rfl 1 rfl rfl ?_
  refine z_iadd (v := nI (19 + g)) (n := 13) hC dX3_hit_12 (nI_add 19 g) rfl ?_
  refine z_iald (v := fa g) (n := 14) hC 5 0 (19 + g) rfl rfl rfl (by omega) (by decide) dX3_hit_13 (nw_fa) rfl ?_
  refine z_aload_n (n := 15) hC dX3_hit_14 rfl 0 rfl rfl ?_
  refine gf_X3_13 (v := .ref (ma 2)) (n := 18) hC 0 rfl rfl dX3_hit_15 rfl ?_
  refine z_iload_n (n := 19) hC dX3_hit_18 rfl 1 rfl rfl ?_
  refine z_iald (v := st g) (n := 20) hC 2 0 g rfl rfl rfl (by omega) (by decide) dX3_hit_19 rfl rfl ?_
  refine z_idiv (v := fa g / st g) (n := 21) hC dX3_hit_20 (ne0_1 (hst g hg)) rfl rfl ?_
  refine z_iadd (v := (amF b r T g) + (fa g / st g)) (n := 22) hC dX3_hit_21 rfl rfl ?_
  refine z_aload_n (n := 23) hC dX3_hit_22 rfl 0 rfl rfl ?_
  refine gf_X3_9 (v := .ref (ma 1)) (n := 26) hC 0 rfl rfl dX3_hit_23 rfl ?_
  refine z_iload_n (n := 27) hC dX3_hit_26 rfl 1 rfl rfl ?_
  refine z_iald (v := sw g) (n := 28) hC 1 0 g rfl rfl rfl (by omega) (by decide) dX3_hit_27 rfl rfl ?_
  refine z_icmp_gt (tgt := 33) (n := 31) hC dX3_hit_28 (by decide) rfl (fun c4 => ?_) (fun c4 => ?_)
  · refine z_aload_n (n := 34) hC dX3_hit_33 rfl 0 rfl rfl ?_
    refine z_iload_n (n := 35) hC dX3_hit_34 rfl 1 rfl rfl ?_
    refine z_calli (R := { frames := 2, cells := 0, slots := 0, locals := 43 }) (cells := 0) (slots := 0) (ws := wN ma cI th n sw st b r T sc fi mi fa K) (n := 38) (As := [.int (nI g)]) (rest := []) hC (k_X3_far l G cI cZ cJ ma th n sw st b r T sc fi mi fa K g (by omega) (by omega) (by omega)) kg_X3_62 kd_yX3_far dX3_hit_35 ⟨Nat.le_of_ble_eq_true rfl, Nat.le_of_ble_eq_true rfl⟩ 0 rfl rfl rfl [0, 1, 2, 3, 4, 5, 6] rfl (by decide) rfl (Nat.le_of_ble_eq_true rfl) ⟨Nat.le_of_ble_eq_true rfl, Nat.le_of_ble_eq_true rfl⟩ (ws2 := fun u5 => wN ma cI th n sw st b r T sc fi mi fa K) [] (fun _ => rfl) ([]) (fun _ => rfl) rfl (fun _ => rfl) [ma 0, ma 1, ma 2, ma 3, ma 4, ma 5, ma 6] (fun _ => rfl) rfl rfl rfl (fun r6 u5 h7 => ?_)
    subst h7
    refine z_aload_n (n := 39) hC dX3_hit_38 rfl 0 rfl rfl ?_
    refine gf_X3_9 (v := .ref (ma 1)) (n := 42) hC 0 rfl rfl dX3_hit_39 rfl ?_
    refine z_iload_n (n := 43) hC dX3_hit_42 rfl 1 rfl rfl ?_
    refine z_iald (v := sw g) (n := 44) hC 1 0 g rfl rfl rfl (by omega) (by decide) dX3_hit_43 rfl rfl ?_
    refine z_icmp_gt (tgt := 51) (n := 47) hC dX3_hit_44 (by decide) rfl (fun c8 => ?_) (fun c8 => ?_)
    · refine z_iconst (v := nI 0) (n := 52) hC dX3_hit_51 (by decide) rfl ?_
      refine z_iret hC hr hlocks () ?_ rfl dX3_hit_52 (by omega) (by omega)
      simp only [ouF, trF, if_pos (hst g hg), if_pos c4, if_pos c8]
    · refine z_iconst (v := nI 1) (n := 48) hC dX3_hit_47 (by decide) rfl ?_
      refine z_goto (n := 52) hC dX3_hit_48 (by decide) ?_
      refine z_iret hC hr hlocks () ?_ rfl dX3_hit_52 (by omega) (by omega)
      simp only [ouF, trF, if_pos (hst g hg), if_pos c4, if_neg c8]
  · refine z_iconst (v := nI 2) (n := 32) hC dX3_hit_31 (by decide) rfl ?_
    refine z_iret hC hr hlocks () ?_ rfl dX3_hit_32 (by omega) (by omega)
    simp only [ouF, trF, if_pos (hst g hg), if_neg c4]

set_option maxRecDepth 100000 in
set_option maxHeartbeats 4000000 in
theorem k_X3_shoot (l : Launch) (G : va_G) (cI cZ cJ : ClassId) (ma : Nat → Nat) (th : Int32) (n : Nat) (sw : Nat → Int32) (st : Nat → Int32) (b : Nat → Int32) (r : Nat → Int32) (T : Nat) (sc : Nat → Int32) (fi : Nat → Int32) (mi : Nat → Int32) (fa : Nat → Int32) (K : Nat → Int32) (g : Nat) (hn : n ≤ 6) (hT : T < 2 ^ 29) (hg : g < n) (hst : ∀ g, g < n → nI 1 ≤ st g) : MV (Unit) l yX3_shoot cX3_shoot 3 3 64 G (tY cI cZ cJ) [.ref (ma 0), .int (nI g)] (wN ma cI th n sw st b r T sc fi mi fa K) (fun _ => True) (fun _ => wN ma cI th n sw st b r T (upd sc g (shQ (ouF (sw g) (st g) (fa g) (amF b r T g)) (sc g, fi g, mi g, fa g)).1) (upd fi g (shQ (ouF (sw g) (st g) (fa g) (amF b r T g)) (sc g, fi g, mi g, fa g)).2.1) (upd mi g (shQ (ouF (sw g) (st g) (fa g) (amF b r T g)) (sc g, fi g, mi g, fa g)).2.2.1) (upd fa g (shQ (ouF (sw g) (st g) (fa g) (amF b r T g)) (sc g, fi g, mi g, fa g)).2.2.2) K) 0 0 := by
  refine MV_of (by decide) (Nat.le_of_ble_eq_true rfl) [(0, .ref (ma 0)), (1, .int (nI g))] rfl ?_
  intro p e s m below meth c hC hr hlocks hname
  have hC : Cx p s m _ c cX3_shoot 3 RX3 G (tY cI cZ cJ) _ := hC
  refine z_aload_n (n := 1) hC dX3_shoot_0 rfl 0 rfl rfl ?_
  refine z_iload_n (n := 2) hC dX3_shoot_1 rfl 1 rfl rfl ?_
  refine z_calli (R := { frames := 3, cells := 0, slots := 0, locals := 64 }) (cells := 0) (slots := 0) (ws := wN ma cI th n sw st b r T sc fi mi fa K) (n := 5) (As := [.int (nI g)]) (rest := []) hC (k_X3_hit l G cI cZ cJ ma th n sw st b r T sc fi mi fa K g (by omega) (by omega) (by omega) hst) kg_X3_65 kd_yX3_hit dX3_shoot_2 ⟨Nat.le_of_ble_eq_true rfl, Nat.le_of_ble_eq_true rfl⟩ 0 rfl rfl rfl [0, 1, 2, 3, 4, 5, 6] rfl (by decide) rfl (Nat.le_of_ble_eq_true rfl) ⟨Nat.le_of_ble_eq_true rfl, Nat.le_of_ble_eq_true rfl⟩ (ws2 := fun u1 => wN ma cI th n sw st b r T sc fi mi fa K) [] (fun _ => rfl) ([]) (fun _ => rfl) rfl (fun _ => rfl) [ma 0, ma 1, ma 2, ma 3, ma 4, ma 5, ma 6] (fun _ => rfl) rfl rfl rfl (fun r2 u1 h3 => ?_)
  subst h3
  refine z_istore_n (lv' := [(2, .int (ouF (sw g) (st g) (fa g) (amF b r T g))), (0, .ref (ma 0)), (1, .int (nI g))]) (n := 6) hC dX3_shoot_5 rfl (by decide) rfl rfl ?_
  refine z_aload_n (n := 7) hC dX3_shoot_6 rfl 1 rfl rfl ?_
  refine gf_X3_22 (v := .ref (ma 5)) (n := 10) hC 0 rfl rfl dX3_shoot_7 rfl ?_
  refine z_iconst (v := nI 1) (n := 11) hC dX3_shoot_10 (by decide) rfl ?_
  refine z_iload_n (n := 12) hC dX3_shoot_11 rfl 2 rfl rfl ?_
  refine z_iadd (v := nI (1 + g)) (n := 13) hC dX3_shoot_12 (nI_add 1 g) rfl ?_
  refine z_dup2 (n := 14) hC dX3_shoot_13 rfl rfl rfl ?_
  refine z_iald (v := sc g) (n := 15) hC 5 0 (1 + g) rfl rfl rfl (by omega) (by decide) dX3_shoot_14 (nw_sc (by omega)) rfl ?_
  refine z_iload_n (n := 16) hC dX3_shoot_15 rfl 0 rfl rfl ?_
  refine z_iadd (v := (sc g) + (ouF (sw g) (st g) (fa g) (amF b r T g))) (n := 17) hC dX3_shoot_16 rfl rfl ?_
  refine z_iast (ws' := wN ma cI th n sw st b r T (upd sc g ((sc g) + (ouF (sw g) (st g) (fa g) (amF b r T g)))) fi mi fa K) (n := 18) hC 5 0 (1 + g) rfl rfl rfl (by omega) (by decide) dX3_shoot_17 (nwu_sc (by omega)) rfl rfl ?_
  refine z_aload_n (n := 19) hC dX3_shoot_18 rfl 1 rfl rfl ?_
  refine gf_X3_22 (v := .ref (ma 5)) (n := 22) hC 0 rfl rfl dX3_shoot_19 rfl ?_
  refine z_bipush (v := nI 7) (n := 24) hC dX3_shoot_22 (by decide) rfl ?_
  refine z_iload_n (n := 25) hC dX3_shoot_24 rfl 2 rfl rfl ?_
  refine z_iadd (v := nI (7 + g)) (n := 26) hC dX3_shoot_25 (nI_add 7 g) rfl ?_
  refine z_dup2 (n := 27) hC dX3_shoot_26 rfl rfl rfl ?_
  refine z_iald (v := fi g) (n := 28) hC 5 0 (7 + g) rfl rfl rfl (by omega) (by decide) dX3_shoot_27 (nw_fi (by omega)) rfl ?_
  refine z_iload_n (n := 29) hC dX3_shoot_28 rfl 0 rfl rfl ?_
  refine z_iconst (v := nI 2) (n := 30) hC dX3_shoot_29 (by decide) rfl ?_
  refine z_icmp_ne (tgt := 37) (n := 33) hC dX3_shoot_30 (by decide) rfl (fun c4 => ?_) (fun c4 => ?_)
  · refine z_iconst (v := nI 0) (n := 38) hC dX3_shoot_37 (by decide) rfl ?_
    refine z_iadd (v := (fi g) + (nI 0)) (n := 39) hC dX3_shoot_38 rfl rfl ?_
    refine z_iast (ws' := wN ma cI th n sw st b r T (upd sc g ((sc g) + (ouF (sw g) (st g) (fa g) (amF b r T g)))) (upd fi g ((fi g) + (nI 0))) mi fa K) (n := 40) hC 5 0 (7 + g) rfl rfl rfl (by omega) (by decide) dX3_shoot_39 (nwu_fi (by omega)) rfl rfl ?_
    refine z_aload_n (n := 41) hC dX3_shoot_40 rfl 1 rfl rfl ?_
    refine gf_X3_22 (v := .ref (ma 5)) (n := 44) hC 0 rfl rfl dX3_shoot_41 rfl ?_
    refine z_bipush (v := nI 13) (n := 46) hC dX3_shoot_44 (by decide) rfl ?_
    refine z_iload_n (n := 47) hC dX3_shoot_46 rfl 2 rfl rfl ?_
    refine z_iadd (v := nI (13 + g)) (n := 48) hC dX3_shoot_47 (nI_add 13 g) rfl ?_
    refine z_dup2 (n := 49) hC dX3_shoot_48 rfl rfl rfl ?_
    refine z_iald (v := mi g) (n := 50) hC 5 0 (13 + g) rfl rfl rfl (by omega) (by decide) dX3_shoot_49 (nw_mi (by omega)) rfl ?_
    refine z_iload_n (n := 51) hC dX3_shoot_50 rfl 0 rfl rfl ?_
    refine z_if_ne (tgt := 58) (n := 54) hC dX3_shoot_51 (by decide) rfl (fun c5 => ?_) (fun c5 => ?_)
    · refine z_iconst (v := nI 0) (n := 59) hC dX3_shoot_58 (by decide) rfl ?_
      refine z_iadd (v := (mi g) + (nI 0)) (n := 60) hC dX3_shoot_59 rfl rfl ?_
      refine z_iast (ws' := wN ma cI th n sw st b r T (upd sc g ((sc g) + (ouF (sw g) (st g) (fa g) (amF b r T g)))) (upd fi g ((fi g) + (nI 0))) (upd mi g ((mi g) + (nI 0))) fa K) (n := 61) hC 5 0 (13 + g) rfl rfl rfl (by omega) (by decide) dX3_shoot_60 (nwu_mi (by omega)) rfl rfl ?_
      refine z_aload_n (n := 62) hC dX3_shoot_61 rfl 1 rfl rfl ?_
      refine gf_X3_22 (v := .ref (ma 5)) (n := 65) hC 0 rfl rfl dX3_shoot_62 rfl ?_
      refine z_bipush (v := nI 19) (n := 67) hC dX3_shoot_65 (by decide) rfl ?_
      refine z_iload_n (n := 68) hC dX3_shoot_67 rfl 2 rfl rfl ?_
      refine z_iadd (v := nI (19 + g)) (n := 69) hC dX3_shoot_68 (nI_add 19 g) rfl ?_
      refine z_dup2 (n := 70) hC dX3_shoot_69 rfl rfl rfl ?_
      refine z_iald (v := fa g) (n := 71) hC 5 0 (19 + g) rfl rfl rfl (by omega) (by decide) dX3_shoot_70 (nw_fa) rfl ?_
      refine z_iload_n (n := 72) hC dX3_shoot_71 rfl 0 rfl rfl ?_
      refine z_iconst (v := nI 2) (n := 73) hC dX3_shoot_72 (by decide) rfl ?_
      refine z_icmp_ne (tgt := 80) (n := 76) hC dX3_shoot_73 (by decide) rfl (fun c6 => ?_) (fun c6 => absurd c6 c4)
      refine z_iconst (v := nI 2) (n := 81) hC dX3_shoot_80 (by decide) rfl ?_
      refine z_iadd (v := (fa g) + (nI 2)) (n := 82) hC dX3_shoot_81 rfl rfl ?_
      refine z_iast (ws' := wN ma cI th n sw st b r T (upd sc g ((sc g) + (ouF (sw g) (st g) (fa g) (amF b r T g)))) (upd fi g ((fi g) + (nI 0))) (upd mi g ((mi g) + (nI 0))) (upd fa g ((fa g) + (nI 2))) K) (n := 83) hC 5 0 (19 + g) rfl rfl rfl (by omega) (by decide) dX3_shoot_82 (nwu_fa) rfl rfl ?_
      refine z_vret hC hr hlocks () ?_ (by simp only [shQ, if_neg c4, if_neg c5, add0]) dX3_shoot_83 (by omega) (by omega)
      trivial
    · refine z_iconst (v := nI 1) (n := 55) hC dX3_shoot_54 (by decide) rfl ?_
      refine z_goto (n := 59) hC dX3_shoot_55 (by decide) ?_
      refine z_iadd (v := (mi g) + (nI 1)) (n := 60) hC dX3_shoot_59 rfl rfl ?_
      refine z_iast (ws' := wN ma cI th n sw st b r T (upd sc g ((sc g) + (ouF (sw g) (st g) (fa g) (amF b r T g)))) (upd fi g ((fi g) + (nI 0))) (upd mi g ((mi g) + (nI 1))) fa K) (n := 61) hC 5 0 (13 + g) rfl rfl rfl (by omega) (by decide) dX3_shoot_60 (nwu_mi (by omega)) rfl rfl ?_
      refine z_aload_n (n := 62) hC dX3_shoot_61 rfl 1 rfl rfl ?_
      refine gf_X3_22 (v := .ref (ma 5)) (n := 65) hC 0 rfl rfl dX3_shoot_62 rfl ?_
      refine z_bipush (v := nI 19) (n := 67) hC dX3_shoot_65 (by decide) rfl ?_
      refine z_iload_n (n := 68) hC dX3_shoot_67 rfl 2 rfl rfl ?_
      refine z_iadd (v := nI (19 + g)) (n := 69) hC dX3_shoot_68 (nI_add 19 g) rfl ?_
      refine z_dup2 (n := 70) hC dX3_shoot_69 rfl rfl rfl ?_
      refine z_iald (v := fa g) (n := 71) hC 5 0 (19 + g) rfl rfl rfl (by omega) (by decide) dX3_shoot_70 (nw_fa) rfl ?_
      refine z_iload_n (n := 72) hC dX3_shoot_71 rfl 0 rfl rfl ?_
      refine z_iconst (v := nI 2) (n := 73) hC dX3_shoot_72 (by decide) rfl ?_
      refine z_icmp_ne (tgt := 80) (n := 76) hC dX3_shoot_73 (by decide) rfl (fun c7 => ?_) (fun c7 => absurd c7 c4)
      refine z_iconst (v := nI 2) (n := 81) hC dX3_shoot_80 (by decide) rfl ?_
      refine z_iadd (v := (fa g) + (nI 2)) (n := 82) hC dX3_shoot_81 rfl rfl ?_
      refine z_iast (ws' := wN ma cI th n sw st b r T (upd sc g ((sc g) + (ouF (sw g) (st g) (fa g) (amF b r T g)))) (upd fi g ((fi g) + (nI 0))) (upd mi g ((mi g) + (nI 1))) (upd fa g ((fa g) + (nI 2))) K) (n := 83) hC 5 0 (19 + g) rfl rfl rfl (by omega) (by decide) dX3_shoot_82 (nwu_fa) rfl rfl ?_
      refine z_vret hC hr hlocks () ?_ (by simp only [shQ, if_neg c4, if_pos c5, add0]) dX3_shoot_83 (by omega) (by omega)
      trivial
  · refine z_iconst (v := nI 1) (n := 34) hC dX3_shoot_33 (by decide) rfl ?_
    refine z_goto (n := 38) hC dX3_shoot_34 (by decide) ?_
    refine z_iadd (v := (fi g) + (nI 1)) (n := 39) hC dX3_shoot_38 rfl rfl ?_
    refine z_iast (ws' := wN ma cI th n sw st b r T (upd sc g ((sc g) + (ouF (sw g) (st g) (fa g) (amF b r T g)))) (upd fi g ((fi g) + (nI 1))) mi fa K) (n := 40) hC 5 0 (7 + g) rfl rfl rfl (by omega) (by decide) dX3_shoot_39 (nwu_fi (by omega)) rfl rfl ?_
    refine z_aload_n (n := 41) hC dX3_shoot_40 rfl 1 rfl rfl ?_
    refine gf_X3_22 (v := .ref (ma 5)) (n := 44) hC 0 rfl rfl dX3_shoot_41 rfl ?_
    refine z_bipush (v := nI 13) (n := 46) hC dX3_shoot_44 (by decide) rfl ?_
    refine z_iload_n (n := 47) hC dX3_shoot_46 rfl 2 rfl rfl ?_
    refine z_iadd (v := nI (13 + g)) (n := 48) hC dX3_shoot_47 (nI_add 13 g) rfl ?_
    refine z_dup2 (n := 49) hC dX3_shoot_48 rfl rfl rfl ?_
    refine z_iald (v := mi g) (n := 50) hC 5 0 (13 + g) rfl rfl rfl (by omega) (by decide) dX3_shoot_49 (nw_mi (by omega)) rfl ?_
    refine z_iload_n (n := 51) hC dX3_shoot_50 rfl 0 rfl rfl ?_
    refine z_if_ne (tgt := 58) (n := 54) hC dX3_shoot_51 (by decide) rfl (fun c8 => ?_) (fun c8 => ?_)
    · refine z_iconst (v := nI 0) (n := 59) hC dX3_shoot_58 (by decide) rfl ?_
      refine z_iadd (v := (mi g) + (nI 0)) (n := 60) hC dX3_shoot_59 rfl rfl ?_
      refine z_iast (ws' := wN ma cI th n sw st b r T (upd sc g ((sc g) + (ouF (sw g) (st g) (fa g) (amF b r T g)))) (upd fi g ((fi g) + (nI 1))) (upd mi g ((mi g) + (nI 0))) fa K) (n := 61) hC 5 0 (13 + g) rfl rfl rfl (by omega) (by decide) dX3_shoot_60 (nwu_mi (by omega)) rfl rfl ?_
      refine z_aload_n (n := 62) hC dX3_shoot_61 rfl 1 rfl rfl ?_
      refine gf_X3_22 (v := .ref (ma 5)) (n := 65) hC 0 rfl rfl dX3_shoot_62 rfl ?_
      refine z_bipush (v := nI 19) (n := 67) hC dX3_shoot_65 (by decide) rfl ?_
      refine z_iload_n (n := 68) hC dX3_shoot_67 rfl 2 rfl rfl ?_
      refine z_iadd (v := nI (19 + g)) (n := 69) hC dX3_shoot_68 (nI_add 19 g) rfl ?_
      refine z_dup2 (n := 70) hC dX3_shoot_69 rfl rfl rfl ?_
      refine z_iald (v := fa g) (n := 71) hC 5 0 (19 + g) rfl rfl rfl (by omega) (by decide) dX3_shoot_70 (nw_fa) rfl ?_
      refine z_iload_n (n := 72) hC dX3_shoot_71 rfl 0 rfl rfl ?_
      refine z_iconst (v := nI 2) (n := 73) hC dX3_shoot_72 (by decide) rfl ?_
      refine z_icmp_ne (tgt := 80) (n := 76) hC dX3_shoot_73 (by decide) rfl (fun c9 => absurd c4 c9) (fun c9 => ?_)
      refine z_iconst (v := nI 1) (n := 77) hC dX3_shoot_76 (by decide) rfl ?_
      refine z_goto (n := 81) hC dX3_shoot_77 (by decide) ?_
      refine z_iadd (v := (fa g) + (nI 1)) (n := 82) hC dX3_shoot_81 rfl rfl ?_
      refine z_iast (ws' := wN ma cI th n sw st b r T (upd sc g ((sc g) + (ouF (sw g) (st g) (fa g) (amF b r T g)))) (upd fi g ((fi g) + (nI 1))) (upd mi g ((mi g) + (nI 0))) (upd fa g ((fa g) + (nI 1))) K) (n := 83) hC 5 0 (19 + g) rfl rfl rfl (by omega) (by decide) dX3_shoot_82 (nwu_fa) rfl rfl ?_
      refine z_vret hC hr hlocks () ?_ (by simp only [shQ, if_pos c4, if_neg c8, add0]) dX3_shoot_83 (by omega) (by omega)
      trivial
    · refine z_iconst (v := nI 1) (n := 55) hC dX3_shoot_54 (by decide) rfl ?_
      refine z_goto (n := 59) hC dX3_shoot_55 (by decide) ?_
      refine z_iadd (v := (mi g) + (nI 1)) (n := 60) hC dX3_shoot_59 rfl rfl ?_
      refine z_iast (ws' := wN ma cI th n sw st b r T (upd sc g ((sc g) + (ouF (sw g) (st g) (fa g) (amF b r T g)))) (upd fi g ((fi g) + (nI 1))) (upd mi g ((mi g) + (nI 1))) fa K) (n := 61) hC 5 0 (13 + g) rfl rfl rfl (by omega) (by decide) dX3_shoot_60 (nwu_mi (by omega)) rfl rfl ?_
      refine z_aload_n (n := 62) hC dX3_shoot_61 rfl 1 rfl rfl ?_
      refine gf_X3_22 (v := .ref (ma 5)) (n := 65) hC 0 rfl rfl dX3_shoot_62 rfl ?_
      refine z_bipush (v := nI 19) (n := 67) hC dX3_shoot_65 (by decide) rfl ?_
      refine z_iload_n (n := 68) hC dX3_shoot_67 rfl 2 rfl rfl ?_
      refine z_iadd (v := nI (19 + g)) (n := 69) hC dX3_shoot_68 (nI_add 19 g) rfl ?_
      refine z_dup2 (n := 70) hC dX3_shoot_69 rfl rfl rfl ?_
      refine z_iald (v := fa g) (n := 71) hC 5 0 (19 + g) rfl rfl rfl (by omega) (by decide) dX3_shoot_70 (nw_fa) rfl ?_
      refine z_iload_n (n := 72) hC dX3_shoot_71 rfl 0 rfl rfl ?_
      refine z_iconst (v := nI 2) (n := 73) hC dX3_shoot_72 (by decide) rfl ?_
      refine z_icmp_ne (tgt := 80) (n := 76) hC dX3_shoot_73 (by decide) rfl (fun c10 => absurd c4 c10) (fun c10 => ?_)
      refine z_iconst (v := nI 1) (n := 77) hC dX3_shoot_76 (by decide) rfl ?_
      refine z_goto (n := 81) hC dX3_shoot_77 (by decide) ?_
      refine z_iadd (v := (fa g) + (nI 1)) (n := 82) hC dX3_shoot_81 rfl rfl ?_
      refine z_iast (ws' := wN ma cI th n sw st b r T (upd sc g ((sc g) + (ouF (sw g) (st g) (fa g) (amF b r T g)))) (upd fi g ((fi g) + (nI 1))) (upd mi g ((mi g) + (nI 1))) (upd fa g ((fa g) + (nI 1))) K) (n := 83) hC 5 0 (19 + g) rfl rfl rfl (by omega) (by decide) dX3_shoot_82 (nwu_fa) rfl rfl ?_
      refine z_vret hC hr hlocks () ?_ (by simp only [shQ, if_pos c4, if_pos c8, add0]) dX3_shoot_83 (by omega) (by omega)
      trivial

set_option maxRecDepth 100000 in
set_option maxHeartbeats 4000000 in
theorem k_X3_turnOn (l : Launch) (G : va_G) (cI cZ cJ : ClassId) (ma : Nat → Nat) (th : Int32) (n : Nat) (sw : Nat → Int32) (st : Nat → Int32) (b : Nat → Int32) (r : Nat → Int32) (T : Nat) (sc : Nat → Int32) (fi : Nat → Int32) (mi : Nat → Int32) (fa : Nat → Int32) (K : Nat → Int32) (hn : n ≤ 6) (hT : T < 2 ^ 29) (hst : ∀ g, g < n → nI 1 ≤ st g) : MV (Unit) l yX3_turnOn cX3_turnOn 2 4 86 G (tY cI cZ cJ) [.ref (ma 0)] (wN ma cI th n sw st b r T sc fi mi fa K) (fun _ => True) (fun _ => wN ma cI th n sw st b r (T + 1) (pwF sc (plS sw st b r sc fi mi fa T 1) n) (pwF fi (plF sw st b r sc fi mi fa T 1) n) (pwF mi (plM sw st b r sc fi mi fa T 1) n) (pwF fa (plA sw st b r sc fi mi fa T 1) n) K) 0 0 := by
  refine MV_of (by decide) (Nat.le_of_ble_eq_true rfl) [(0, .ref (ma 0))] rfl ?_
  intro p e s m below meth c hC hr hlocks hname
  have hC : Cx p s m _ c cX3_turnOn 2 RX3 G (tY cI cZ cJ) _ := hC
  refine z_iconst (v := nI 0) (n := 1) hC dX3_turnOn_0 (by decide) rfl ?_
  refine z_istore_n (lv' := [(1, .int (nI 0)), (0, .ref (ma 0))]) (n := 2) hC dX3_turnOn_1 rfl (by decide) rfl rfl ?_
  refine z_lv [1, 0] (lv' := [(0, .ref (ma 0)), (1, .int (nI 0))]) rfl ?_
  refine z_weq (ws' := wN ma cI th n sw st b r T (pwF sc (shS sw st b r sc fi mi fa T) 0) (pwF fi (shF sw st b r sc fi mi fa T) 0) (pwF mi (shM sw st b r sc fi mi fa T) 0) (pwF fa (shA sw st b r sc fi mi fa T) 0) K) (by simp only [pwF_0]) ?_
  refine z_loop n 0 (fun i => wN ma cI th n sw st b r T (pwF sc (shS sw st b r sc fi mi fa T) i) (pwF fi (shF sw st b r sc fi mi fa T) i) (pwF mi (shM sw st b r sc fi mi fa T) i) (pwF fa (shA sw st b r sc fi mi fa T) i) K) (fun i => [(0, .ref (ma 0)), (1, .int (nI i))]) (by omega) rfl rfl (fun i hi0 hi1 ih => ?_)
  refine z_iload_n (n := 3) hC dX3_turnOn_2 rfl 1 rfl rfl ?_
  refine z_aload_n (n := 4) hC dX3_turnOn_3 rfl 0 rfl rfl ?_
  refine gf_X3_32 (v := .int (nI n)) (n := 7) hC 0 rfl rfl dX3_turnOn_4 rfl ?_
  refine z_icmp_ge_n (tgt := 21) (n := 10) hC i n rfl rfl (by omega) (by omega) dX3_turnOn_7 (by decide) rfl (fun c1 => ?_) (fun c1 => ?_)
  · obtain rfl : n = i := by omega
    refine z_aload_n (n := 22) hC dX3_turnOn_21 rfl 0 rfl rfl ?_
    refine z_calli (R := { frames := 4, cells := 0, slots := 0, locals := 86 }) (cells := 0) (slots := 0) (ws := wN ma cI th n sw st b r T (pwF sc (shS sw st b r sc fi mi fa T) n) (pwF fi (shF sw st b r sc fi mi fa T) n) (pwF mi (shM sw st b r sc fi mi fa T) n) (pwF fa (shA sw st b r sc fi mi fa T) n) K) (n := 25) (As := []) (rest := []) hC (k_X3_clay l G cI cZ cJ ma th n sw st b r T (pwF sc (shS sw st b r sc fi mi fa T) n) (pwF fi (shF sw st b r sc fi mi fa T) n) (pwF mi (shM sw st b r sc fi mi fa T) n) (pwF fa (shA sw st b r sc fi mi fa T) n) K (by omega) (by omega)) kg_X3_49 kd_yX3_clay dX3_turnOn_22 ⟨Nat.le_of_ble_eq_true rfl, Nat.le_of_ble_eq_true rfl⟩ 0 rfl rfl rfl [0, 1, 2, 3, 4, 5, 6] rfl (by decide) rfl (Nat.le_of_ble_eq_true rfl) ⟨Nat.le_of_ble_eq_true rfl, Nat.le_of_ble_eq_true rfl⟩ (ws2 := fun u2 => wN ma cI th n sw st b r T (pwF sc (shS sw st b r sc fi mi fa T) n) (pwF fi (shF sw st b r sc fi mi fa T) n) (pwF mi (shM sw st b r sc fi mi fa T) n) (pwF fa (shA sw st b r sc fi mi fa T) n) K) [] (fun _ => rfl) ([]) (fun _ => rfl) rfl (fun _ => rfl) [ma 0, ma 1, ma 2, ma 3, ma 4, ma 5, ma 6] (fun _ => rfl) rfl rfl rfl (fun r3 u2 h4 => ?_)
    subst h4
    refine z_iconst (v := nI 4) (n := 26) hC dX3_turnOn_25 (by decide) rfl ?_
    refine z_icmp_ne_n (tgt := 69) (n := 29) hC (T % 5) 4 rfl rfl (by omega) (by omega) dX3_turnOn_26 (by decide) rfl (fun c5 => ?_) (fun c5 => ?_)
    · refine z_aload_n (n := 70) hC dX3_turnOn_69 rfl 0 rfl rfl ?_
      refine gf_X3_22 (v := .ref (ma 5)) (n := 73) hC 0 rfl rfl dX3_turnOn_70 rfl ?_
      refine z_iconst (v := nI 0) (n := 74) hC dX3_turnOn_73 (by decide) rfl ?_
      refine z_dup2 (n := 75) hC dX3_turnOn_74 rfl rfl rfl ?_
      refine z_iald (v := nI T) (n := 76) hC 5 0 0 rfl rfl rfl (by omega) (by decide) dX3_turnOn_75 rfl rfl ?_
      refine z_iconst (v := nI 1) (n := 77) hC dX3_turnOn_76 (by decide) rfl ?_
      refine z_iadd (v := nI (T + 1)) (n := 78) hC dX3_turnOn_77 (nI_add T 1) rfl ?_
      refine z_iast (ws' := wN ma cI th n sw st b r (T + 1) (pwF sc (shS sw st b r sc fi mi fa T) n) (pwF fi (shF sw st b r sc fi mi fa T) n) (pwF mi (shM sw st b r sc fi mi fa T) n) (pwF fa (shA sw st b r sc fi mi fa T) n) K) (n := 79) hC 5 0 0 rfl rfl rfl (by omega) (by decide) dX3_turnOn_78 nwu_T rfl rfl ?_
      refine z_vret hC hr hlocks () ?_ (by simp only [pl1_S, pl1_F, pl1_M, pwF_wp, pl1_A' c5]) dX3_turnOn_79 (by omega) (by omega)
      trivial
    · refine z_iconst (v := nI 0) (n := 30) hC dX3_turnOn_29 (by decide) rfl ?_
      refine z_istore_n (lv' := [(1, .int (nI 0)), (0, .ref (ma 0))]) (n := 31) hC dX3_turnOn_30 rfl (by decide) rfl rfl ?_
      refine z_lv [1, 0] (lv' := [(0, .ref (ma 0)), (1, .int (nI 0))]) rfl ?_
      refine z_weq (ws' := wN ma cI th n sw st b r T (pwF sc (shS sw st b r sc fi mi fa T) n) (pwF fi (shF sw st b r sc fi mi fa T) n) (pwF mi (shM sw st b r sc fi mi fa T) n) (pwF (pwF fa (shA sw st b r sc fi mi fa T) n) (mxA sw st b r sc fi mi fa T) 0) K) (by simp only [pwF_0]) ?_
      refine z_loop n 0 (fun j => wN ma cI th n sw st b r T (pwF sc (shS sw st b r sc fi mi fa T) n) (pwF fi (shF sw st b r sc fi mi fa T) n) (pwF mi (shM sw st b r sc fi mi fa T) n) (pwF (pwF fa (shA sw st b r sc fi mi fa T) n) (mxA sw st b r sc fi mi fa T) j) K) (fun j => [(0, .ref (ma 0)), (1, .int (nI j))]) (by omega) rfl rfl (fun j hi0j hi1j ihj => ?_)
      refine z_iload_n (n := 32) hC dX3_turnOn_31 rfl 1 rfl rfl ?_
      refine z_aload_n (n := 33) hC dX3_turnOn_32 rfl 0 rfl rfl ?_
      refine gf_X3_32 (v := .int (nI n)) (n := 36) hC 0 rfl rfl dX3_turnOn_33 rfl ?_
      refine z_icmp_ge_n (tgt := 69) (n := 39) hC j n rfl rfl (by omega) (by omega) dX3_turnOn_36 (by decide) rfl (fun c6 => ?_) (fun c6 => ?_)
      · obtain rfl : n = j := by omega
        refine z_aload_n (n := 70) hC dX3_turnOn_69 rfl 0 rfl rfl ?_
        refine gf_X3_22 (v := .ref (ma 5)) (n := 73) hC 0 rfl rfl dX3_turnOn_70 rfl ?_
        refine z_iconst (v := nI 0) (n := 74) hC dX3_turnOn_73 (by decide) rfl ?_
        refine z_dup2 (n := 75) hC dX3_turnOn_74 rfl rfl rfl ?_
        refine z_iald (v := nI T) (n := 76) hC 5 0 0 rfl rfl rfl (by omega) (by decide) dX3_turnOn_75 rfl rfl ?_
        refine z_iconst (v := nI 1) (n := 77) hC dX3_turnOn_76 (by decide) rfl ?_
        refine z_iadd (v := nI (T + 1)) (n := 78) hC dX3_turnOn_77 (nI_add T 1) rfl ?_
        refine z_iast (ws' := wN ma cI th n sw st b r (T + 1) (pwF sc (shS sw st b r sc fi mi fa T) n) (pwF fi (shF sw st b r sc fi mi fa T) n) (pwF mi (shM sw st b r sc fi mi fa T) n) (pwF (pwF fa (shA sw st b r sc fi mi fa T) n) (mxA sw st b r sc fi mi fa T) n) K) (n := 79) hC 5 0 0 rfl rfl rfl (by omega) (by decide) dX3_turnOn_78 nwu_T rfl rfl ?_
        refine z_vret hC hr hlocks () ?_ (by simp only [pl1_S, pl1_F, pl1_M, pwF_wp, pl1_A c5]) dX3_turnOn_79 (by omega) (by omega)
        trivial
      · refine z_aload_n (n := 40) hC dX3_turnOn_39 rfl 0 rfl rfl ?_
        refine gf_X3_22 (v := .ref (ma 5)) (n := 43) hC 0 rfl rfl dX3_turnOn_40 rfl ?_
        refine z_bipush (v := nI 19) (n := 45) hC dX3_turnOn_43 (by decide) rfl ?_
        refine z_iload_n (n := 46) hC dX3_turnOn_45 rfl 1 rfl rfl ?_
        refine z_iadd (v := nI (19 + j)) (n := 47) hC dX3_turnOn_46 (nI_add 19 j) rfl ?_
        refine z_iconst (v := nI 0) (n := 48) hC dX3_turnOn_47 (by decide) rfl ?_
        refine z_aload_n (n := 49) hC dX3_turnOn_48 rfl 0 rfl rfl ?_
        refine gf_X3_22 (v := .ref (ma 5)) (n := 52) hC 0 rfl rfl dX3_turnOn_49 rfl ?_
        refine z_bipush (v := nI 19) (n := 54) hC dX3_turnOn_52 (by decide) rfl ?_
        refine z_iload_n (n := 55) hC dX3_turnOn_54 rfl 1 rfl rfl ?_
        refine z_iadd (v := nI (19 + j)) (n := 56) hC dX3_turnOn_55 (nI_add 19 j) rfl ?_
        refine z_iald (v := shA sw st b r sc fi mi fa T j) (n := 57) hC 5 0 (19 + j) rfl rfl rfl (by omega) (by decide) dX3_turnOn_56 ((nw_fa).trans (by rw [pwF_at (Nat.le_refl _), pwF_lt (by omega)])) rfl ?_
        refine z_iconst (v := nI 3) (n := 58) hC dX3_turnOn_57 (by decide) rfl ?_
        refine z_isub (v := (shA sw st b r sc fi mi fa T j) - (nI 3)) (n := 59) hC dX3_turnOn_58 rfl rfl ?_
        refine z_mmax (v := maxF (nI 0) ((shA sw st b r sc fi mi fa T j) - (nI 3))) (n := 62) hC q455 q638 q173 q640 (by decide) (Nat.le_of_ble_eq_true rfl) (by omega) (by omega) dX3_turnOn_59 rfl rfl ?_
        refine z_iast (ws' := wN ma cI th n sw st b r T (pwF sc (shS sw st b r sc fi mi fa T) n) (pwF fi (shF sw st b r sc fi mi fa T) n) (pwF mi (shM sw st b r sc fi mi fa T) n) (pwF (pwF fa (shA sw st b r sc fi mi fa T) n) (mxA sw st b r sc fi mi fa T) (j + 1)) K) (n := 63) hC 5 0 (19 + j) rfl rfl rfl (by omega) (by decide) dX3_turnOn_62 ((nwu_fa).trans (congrArg (fun z => nowF T (pwF sc (shS sw st b r sc fi mi fa T) n) (pwF fi (shF sw st b r sc fi mi fa T) n) (pwF mi (shM sw st b r sc fi mi fa T) n) z) (pwF_e rfl))) rfl rfl ?_
        refine z_iinc (k0 := 1) (v := nI (j + 1)) (lv' := [(1, .int (nI (j + 1))), (0, .ref (ma 0))]) (n := 66) hC dX3_turnOn_63 rfl (nI_add j 1) (by decide) rfl rfl ?_
        refine z_goto (n := 31) hC dX3_turnOn_66 (by decide) ?_
        refine z_lv [1, 0] (lv' := [(0, .ref (ma 0)), (1, .int (nI (j + 1)))]) rfl ?_
        exact ihj (j + 1) (by omega) (by omega)
  · refine z_aload_n (n := 11) hC dX3_turnOn_10 rfl 0 rfl rfl ?_
    refine z_iload_n (n := 12) hC dX3_turnOn_11 rfl 1 rfl rfl ?_
    refine z_callv (R := { frames := 4, cells := 0, slots := 0, locals := 86 }) (cells := 0) (slots := 0) (ws := wN ma cI th n sw st b r T (pwF sc (shS sw st b r sc fi mi fa T) i) (pwF fi (shF sw st b r sc fi mi fa T) i) (pwF mi (shM sw st b r sc fi mi fa T) i) (pwF fa (shA sw st b r sc fi mi fa T) i) K) (n := 15) (As := [.int (nI i)]) (rest := []) hC (k_X3_shoot l G cI cZ cJ ma th n sw st b r T (pwF sc (shS sw st b r sc fi mi fa T) i) (pwF fi (shF sw st b r sc fi mi fa T) i) (pwF mi (shM sw st b r sc fi mi fa T) i) (pwF fa (shA sw st b r sc fi mi fa T) i) K i (by omega) (by omega) (by omega) hst) kg_X3_68 kd_yX3_shoot dX3_turnOn_12 ⟨Nat.le_of_ble_eq_true rfl, Nat.le_of_ble_eq_true rfl⟩ 0 rfl rfl rfl [0, 1, 2, 3, 4, 5, 6] rfl (by decide) rfl (Nat.le_of_ble_eq_true rfl) ⟨Nat.le_of_ble_eq_true rfl, Nat.le_of_ble_eq_true rfl⟩ (ws2 := fun u7 => wN ma cI th n sw st b r T (upd (pwF sc (shS sw st b r sc fi mi fa T) i) i (shQ (ouF (sw i) (st i) ((pwF fa (shA sw st b r sc fi mi fa T) i) i) (amF b r T i)) ((pwF sc (shS sw st b r sc fi mi fa T) i) i, (pwF fi (shF sw st b r sc fi mi fa T) i) i, (pwF mi (shM sw st b r sc fi mi fa T) i) i, (pwF fa (shA sw st b r sc fi mi fa T) i) i)).1) (upd (pwF fi (shF sw st b r sc fi mi fa T) i) i (shQ (ouF (sw i) (st i) ((pwF fa (shA sw st b r sc fi mi fa T) i) i) (amF b r T i)) ((pwF sc (shS sw st b r sc fi mi fa T) i) i, (pwF fi (shF sw st b r sc fi mi fa T) i) i, (pwF mi (shM sw st b r sc fi mi fa T) i) i, (pwF fa (shA sw st b r sc fi mi fa T) i) i)).2.1) (upd (pwF mi (shM sw st b r sc fi mi fa T) i) i (shQ (ouF (sw i) (st i) ((pwF fa (shA sw st b r sc fi mi fa T) i) i) (amF b r T i)) ((pwF sc (shS sw st b r sc fi mi fa T) i) i, (pwF fi (shF sw st b r sc fi mi fa T) i) i, (pwF mi (shM sw st b r sc fi mi fa T) i) i, (pwF fa (shA sw st b r sc fi mi fa T) i) i)).2.2.1) (upd (pwF fa (shA sw st b r sc fi mi fa T) i) i (shQ (ouF (sw i) (st i) ((pwF fa (shA sw st b r sc fi mi fa T) i) i) (amF b r T i)) ((pwF sc (shS sw st b r sc fi mi fa T) i) i, (pwF fi (shF sw st b r sc fi mi fa T) i) i, (pwF mi (shM sw st b r sc fi mi fa T) i) i, (pwF fa (shA sw st b r sc fi mi fa T) i) i)).2.2.2) K) [] (fun _ => rfl) ([]) (fun _ => rfl) rfl (fun _ => rfl) [ma 0, ma 1, ma 2, ma 3, ma 4, ma 5, ma 6] (fun _ => rfl) rfl rfl rfl (fun u7 h9 => ?_)
    refine z_weq (ws' := wN ma cI th n sw st b r T (pwF sc (shS sw st b r sc fi mi fa T) (i + 1)) (pwF fi (shF sw st b r sc fi mi fa T) (i + 1)) (pwF mi (shM sw st b r sc fi mi fa T) (i + 1)) (pwF fa (shA sw st b r sc fi mi fa T) (i + 1)) K) (by rw [← pwF_s (f := sc), ← pwF_s (f := fi), ← pwF_s (f := mi), ← pwF_s (f := fa)]; simp only [pwF_at (Nat.le_refl _)]; rfl) ?_
    refine z_iinc (k0 := 1) (v := nI (i + 1)) (lv' := [(1, .int (nI (i + 1))), (0, .ref (ma 0))]) (n := 18) hC dX3_turnOn_15 rfl (nI_add i 1) (by decide) rfl rfl ?_
    refine z_goto (n := 2) hC dX3_turnOn_18 (by decide) ?_
    refine z_lv [1, 0] (lv' := [(0, .ref (ma 0)), (1, .int (nI (i + 1)))]) rfl ?_
    exact ih (i + 1) (by omega) (by omega)

set_option maxRecDepth 100000 in
set_option maxHeartbeats 4000000 in
theorem k_X3_turnsOn (l : Launch) (G : va_G) (cI cZ cJ : ClassId) (ma : Nat → Nat) (th : Int32) (n : Nat) (sw : Nat → Int32) (st : Nat → Int32) (b : Nat → Int32) (r : Nat → Int32) (T : Nat) (sc : Nat → Int32) (fi : Nat → Int32) (mi : Nat → Int32) (fa : Nat → Int32) (K : Nat → Int32) (k : Nat) (hn : n ≤ 6) (hT : T < 2 ^ 29) (hk : T + k < 2 ^ 29) (hst : ∀ g, g < n → nI 1 ≤ st g) : MV (Unit) l yX3_turnsOn cX3_turnsOn 3 5 107 G (tY cI cZ cJ) [.ref (ma 0), .int (nI k)] (wN ma cI th n sw st b r T sc fi mi fa K) (fun _ => True) (fun _ => wN ma cI th n sw st b r (T + k) (pwF sc (plS sw st b r sc fi mi fa T k) n) (pwF fi (plF sw st b r sc fi mi fa T k) n) (pwF mi (plM sw st b r sc fi mi fa T k) n) (pwF fa (plA sw st b r sc fi mi fa T k) n) K) 0 0 := by
  refine MV_of (by decide) (Nat.le_of_ble_eq_true rfl) [(0, .ref (ma 0)), (1, .int (nI k))] rfl ?_
  intro p e s m below meth c hC hr hlocks hname
  have hC : Cx p s m _ c cX3_turnsOn 3 RX3 G (tY cI cZ cJ) _ := hC
  refine z_iconst (v := nI 0) (n := 1) hC dX3_turnsOn_0 (by decide) rfl ?_
  refine z_istore_n (lv' := [(2, .int (nI 0)), (0, .ref (ma 0)), (1, .int (nI k))]) (n := 2) hC dX3_turnsOn_1 rfl (by decide) rfl rfl ?_
  refine z_lv [1, 2, 0] (lv' := [(0, .ref (ma 0)), (1, .int (nI k)), (2, .int (nI 0))]) rfl ?_
  refine z_weq (ws' := wN ma cI th n sw st b r (T + 0) (pwF sc (plS sw st b r sc fi mi fa T 0) n) (pwF fi (plF sw st b r sc fi mi fa T 0) n) (pwF mi (plM sw st b r sc fi mi fa T 0) n) (pwF fa (plA sw st b r sc fi mi fa T 0) n) K) (by rw [pl_0S, pl_0F, pl_0M, pl_0A, Nat.add_zero]) ?_
  refine z_loop k 0 (fun i => wN ma cI th n sw st b r (T + i) (pwF sc (plS sw st b r sc fi mi fa T i) n) (pwF fi (plF sw st b r sc fi mi fa T i) n) (pwF mi (plM sw st b r sc fi mi fa T i) n) (pwF fa (plA sw st b r sc fi mi fa T i) n) K) (fun i => [(0, .ref (ma 0)), (1, .int (nI k)), (2, .int (nI i))]) (by omega) rfl rfl (fun i hi0 hi1 ih => ?_)
  refine z_iload_n (n := 3) hC dX3_turnsOn_2 rfl 2 rfl rfl ?_
  refine z_iload_n (n := 4) hC dX3_turnsOn_3 rfl 1 rfl rfl ?_
  refine z_icmp_ge_n (tgt := 17) (n := 7) hC i k rfl rfl (by omega) (by omega) dX3_turnsOn_4 (by decide) rfl (fun c1 => ?_) (fun c1 => ?_)
  · obtain rfl : k = i := by omega
    refine z_vret hC hr hlocks () ?_ rfl dX3_turnsOn_17 (by omega) (by omega)
    trivial
  · refine z_aload_n (n := 8) hC dX3_turnsOn_7 rfl 0 rfl rfl ?_
    refine z_callv (R := { frames := 5, cells := 0, slots := 0, locals := 107 }) (cells := 0) (slots := 0) (ws := wN ma cI th n sw st b r (T + i) (pwF sc (plS sw st b r sc fi mi fa T i) n) (pwF fi (plF sw st b r sc fi mi fa T i) n) (pwF mi (plM sw st b r sc fi mi fa T i) n) (pwF fa (plA sw st b r sc fi mi fa T i) n) K) (n := 11) (As := []) (rest := []) hC (k_X3_turnOn l G cI cZ cJ ma th n sw st b r (T + i) (pwF sc (plS sw st b r sc fi mi fa T i) n) (pwF fi (plF sw st b r sc fi mi fa T i) n) (pwF mi (plM sw st b r sc fi mi fa T i) n) (pwF fa (plA sw st b r sc fi mi fa T i) n) K (by omega) (by omega) hst) kg_X3_75 kd_yX3_turnOn dX3_turnsOn_8 ⟨Nat.le_of_ble_eq_true rfl, Nat.le_of_ble_eq_true rfl⟩ 0 rfl rfl rfl [0, 1, 2, 3, 4, 5, 6] rfl (by decide) rfl (Nat.le_of_ble_eq_true rfl) ⟨Nat.le_of_ble_eq_true rfl, Nat.le_of_ble_eq_true rfl⟩ (ws2 := fun u2 => wN ma cI th n sw st b r ((T + i) + 1) (pwF (pwF sc (plS sw st b r sc fi mi fa T i) n) (plS sw st b r (pwF sc (plS sw st b r sc fi mi fa T i) n) (pwF fi (plF sw st b r sc fi mi fa T i) n) (pwF mi (plM sw st b r sc fi mi fa T i) n) (pwF fa (plA sw st b r sc fi mi fa T i) n) (T + i) 1) n) (pwF (pwF fi (plF sw st b r sc fi mi fa T i) n) (plF sw st b r (pwF sc (plS sw st b r sc fi mi fa T i) n) (pwF fi (plF sw st b r sc fi mi fa T i) n) (pwF mi (plM sw st b r sc fi mi fa T i) n) (pwF fa (plA sw st b r sc fi mi fa T i) n) (T + i) 1) n) (pwF (pwF mi (plM sw st b r sc fi mi fa T i) n) (plM sw st b r (pwF sc (plS sw st b r sc fi mi fa T i) n) (pwF fi (plF sw st b r sc fi mi fa T i) n) (pwF mi (plM sw st b r sc fi mi fa T i) n) (pwF fa (plA sw st b r sc fi mi fa T i) n) (T + i) 1) n) (pwF (pwF fa (plA sw st b r sc fi mi fa T i) n) (plA sw st b r (pwF sc (plS sw st b r sc fi mi fa T i) n) (pwF fi (plF sw st b r sc fi mi fa T i) n) (pwF mi (plM sw st b r sc fi mi fa T i) n) (pwF fa (plA sw st b r sc fi mi fa T i) n) (T + i) 1) n) K) [] (fun _ => rfl) ([]) (fun _ => rfl) rfl (fun _ => rfl) [ma 0, ma 1, ma 2, ma 3, ma 4, ma 5, ma 6] (fun _ => rfl) rfl rfl rfl (fun u2 h4 => ?_)
    refine z_weq (ws' := wN ma cI th n sw st b r (T + (i + 1)) (pwF sc (plS sw st b r sc fi mi fa T (i + 1)) n) (pwF fi (plF sw st b r sc fi mi fa T (i + 1)) n) (pwF mi (plM sw st b r sc fi mi fa T (i + 1)) n) (pwF fa (plA sw st b r sc fi mi fa T (i + 1)) n) K) (by rw [pl_sS, pl_sF, pl_sM, pl_sA, Nat.add_assoc]) ?_
    refine z_iinc (k0 := 2) (v := nI (i + 1)) (lv' := [(2, .int (nI (i + 1))), (0, .ref (ma 0)), (1, .int (nI k))]) (n := 14) hC dX3_turnsOn_11 rfl (nI_add i 1) (by decide) rfl rfl ?_
    refine z_goto (n := 2) hC dX3_turnsOn_14 (by decide) ?_
    refine z_lv [1, 2, 0] (lv' := [(0, .ref (ma 0)), (1, .int (nI k)), (2, .int (nI (i + 1)))]) rfl ?_
    exact ih (i + 1) (by omega) (by omega)

set_option maxRecDepth 100000 in
set_option maxHeartbeats 4000000 in
theorem k_X3_missed (l : Launch) (G : va_G) (cI cZ cJ : ClassId) (ma : Nat → Nat) (th : Int32) (n : Nat) (sw : Nat → Int32) (st : Nat → Int32) (b : Nat → Int32) (r : Nat → Int32) (T : Nat) (sc : Nat → Int32) (fi : Nat → Int32) (mi : Nat → Int32) (fa : Nat → Int32) (K : Nat → Int32) (hn : n ≤ 6) (hT : T < 2 ^ 29) : MI (Unit) l yX3_missed cX3_missed 3 0 0 G (tY cI cZ cJ) [.ref (ma 0)] (wN ma cI th n sw st b r T sc fi mi fa K) (fun zr _ => zr = smF mi n) (fun _ => wN ma cI th n sw st b r T sc fi mi fa K) 0 0 := by
  refine MI_of (by decide) (Nat.le_of_ble_eq_true rfl) [(0, .ref (ma 0))] rfl ?_
  intro p e s m below meth c hC hr hlocks hname
  have hC : Cx p s m _ c cX3_missed 3 RX3 G (tY cI cZ cJ) _ := hC
  refine z_iconst (v := nI 0) (n := 1) hC dX3_missed_0 (by decide) rfl ?_
  refine z_istore_n (lv' := [(1, .int (nI 0)), (0, .ref (ma 0))]) (n := 2) hC dX3_missed_1 rfl (by decide) rfl rfl ?_
  refine z_iconst (v := nI 0) (n := 3) hC dX3_missed_2 (by decide) rfl ?_
  refine z_istore_n (lv' := [(2, .int (nI 0)), (1, .int (nI 0)), (0, .ref (ma 0))]) (n := 4) hC dX3_missed_3 rfl (by decide) rfl rfl ?_
  refine z_lv [2, 1, 0] (lv' := [(0, .ref (ma 0)), (1, .int (smF mi 0)), (2, .int (nI 0))]) rfl ?_
  refine z_loop n 0 (fun i => wN ma cI th n sw st b r T sc fi mi fa K) (fun i => [(0, .ref (ma 0)), (1, .int (smF mi i)), (2, .int (nI i))]) (by omega) rfl rfl (fun i hi0 hi1 ih => ?_)
  refine z_iload_n (n := 5) hC dX3_missed_4 rfl 2 rfl rfl ?_
  refine z_aload_n (n := 6) hC dX3_missed_5 rfl 0 rfl rfl ?_
  refine gf_X3_32 (v := .int (nI n)) (n := 9) hC 0 rfl rfl dX3_missed_6 rfl ?_
  refine z_icmp_ge_n (tgt := 30) (n := 12) hC i n rfl rfl (by omega) (by omega) dX3_missed_9 (by decide) rfl (fun c1 => ?_) (fun c1 => ?_)
  · obtain rfl : n = i := by omega
    refine z_iload_n (n := 31) hC dX3_missed_30 rfl 1 rfl rfl ?_
    refine z_iret hC hr hlocks () ?_ rfl dX3_missed_31 (by omega) (by omega)
    rfl
  · refine z_iload_n (n := 13) hC dX3_missed_12 rfl 1 rfl rfl ?_
    refine z_aload_n (n := 14) hC dX3_missed_13 rfl 0 rfl rfl ?_
    refine gf_X3_22 (v := .ref (ma 5)) (n := 17) hC 0 rfl rfl dX3_missed_14 rfl ?_
    refine z_bipush (v := nI 13) (n := 19) hC dX3_missed_17 (by decide) rfl ?_
    refine z_iload_n (n := 20) hC dX3_missed_19 rfl 2 rfl rfl ?_
    refine z_iadd (v := nI (13 + i)) (n := 21) hC dX3_missed_20 (nI_add 13 i) rfl ?_
    refine z_iald (v := mi i) (n := 22) hC 5 0 (13 + i) rfl rfl rfl (by omega) (by decide) dX3_missed_21 (nw_mi (by omega)) rfl ?_
    refine z_iadd (v := (smF mi i) + (mi i)) (n := 23) hC dX3_missed_22 rfl rfl ?_
    refine z_istore_n (lv' := [(1, .int ((smF mi i) + (mi i))), (0, .ref (ma 0)), (2, .int (nI i))]) (n := 24) hC dX3_missed_23 rfl (by decide) rfl rfl ?_
    refine z_iinc (k0 := 2) (v := nI (i + 1)) (lv' := [(2, .int (nI (i + 1))), (1, .int ((smF mi i) + (mi i))), (0, .ref (ma 0))]) (n := 27) hC dX3_missed_24 rfl (nI_add i 1) (by decide) rfl rfl ?_
    refine z_goto (n := 4) hC dX3_missed_27 (by decide) ?_
    refine z_lv [2, 1, 0] (lv' := [(0, .ref (ma 0)), (1, .int (smF mi (i + 1))), (2, .int (nI (i + 1)))]) rfl ?_
    exact ih (i + 1) (by omega) (by omega)

set_option maxRecDepth 100000 in
set_option maxHeartbeats 4000000 in
theorem k_X3_first (l : Launch) (G : va_G) (cI cZ cJ : ClassId) (ma : Nat → Nat) (th : Int32) (n : Nat) (sw : Nat → Int32) (st : Nat → Int32) (b : Nat → Int32) (r : Nat → Int32) (T : Nat) (sc : Nat → Int32) (fi : Nat → Int32) (mi : Nat → Int32) (fa : Nat → Int32) (K : Nat → Int32) (hn : n ≤ 6) (hT : T < 2 ^ 29) : MI (Unit) l yX3_first cX3_first 3 0 0 G (tY cI cZ cJ) [.ref (ma 0)] (wN ma cI th n sw st b r T sc fi mi fa K) (fun zr _ => zr = ldF sc n) (fun _ => wN ma cI th n sw st b r T sc fi mi fa K) 0 0 := by
  refine MI_of (by decide) (Nat.le_of_ble_eq_true rfl) [(0, .ref (ma 0))] rfl ?_
  intro p e s m below meth c hC hr hlocks hname
  have hC : Cx p s m _ c cX3_first 3 RX3 G (tY cI cZ cJ) _ := hC
  refine z_iconst (v := (-1)) (n := 1) hC dX3_first_0 (by decide) rfl ?_
  refine z_istore_n (lv' := [(1, .int (-1)), (0, .ref (ma 0))]) (n := 2) hC dX3_first_1 rfl (by decide) rfl rfl ?_
  refine z_iconst (v := nI 0) (n := 3) hC dX3_first_2 (by decide) rfl ?_
  refine z_istore_n (lv' := [(2, .int (nI 0)), (1, .int (-1)), (0, .ref (ma 0))]) (n := 4) hC dX3_first_3 rfl (by decide) rfl rfl ?_
  refine z_lv [2, 1, 0] (lv' := [(0, .ref (ma 0)), (1, .int (-1)), (2, .int (nI 0))]) rfl ?_
  refine z_leq (lv' := [(0, .ref (ma 0)), (1, .int (ldF sc 0)), (2, .int (nI 0))]) (by rw [ldF_0 rfl]) ?_
  refine z_loop n 0 (fun i => wN ma cI th n sw st b r T sc fi mi fa K) (fun i => [(0, .ref (ma 0)), (1, .int (ldF sc i)), (2, .int (nI i))]) (by omega) rfl rfl (fun i hi0 hi1 ih => ?_)
  refine z_iload_n (n := 5) hC dX3_first_4 rfl 2 rfl rfl ?_
  refine z_aload_n (n := 6) hC dX3_first_5 rfl 0 rfl rfl ?_
  refine gf_X3_32 (v := .int (nI n)) (n := 9) hC 0 rfl rfl dX3_first_6 rfl ?_
  refine z_icmp_ge_n (tgt := 44) (n := 12) hC i n rfl rfl (by omega) (by omega) dX3_first_9 (by decide) rfl (fun c1 => ?_) (fun c1 => ?_)
  · obtain rfl : n = i := by omega
    refine z_iload_n (n := 45) hC dX3_first_44 rfl 1 rfl rfl ?_
    refine z_iret hC hr hlocks () ?_ rfl dX3_first_45 (by omega) (by omega)
    rfl
  · rcases Nat.eq_zero_or_pos i with h0 | h0
    · refine z_leq (lv' := [(0, .ref (ma 0)), (1, .int (-1)), (2, .int (nI i))]) (by rw [ldF_0 h0]) ?_
      refine z_iload_n (n := 13) hC dX3_first_12 rfl 1 rfl rfl ?_
      refine z_iconst (v := (-1)) (n := 14) hC dX3_first_13 (by decide) rfl ?_
      refine z_icmp_eq (tgt := 36) (n := 17) hC dX3_first_14 (by decide) rfl (fun c2 => ?_) (fun c2 => absurd rfl c2)
      refine z_iload_n (n := 37) hC dX3_first_36 rfl 2 rfl rfl ?_
      refine z_istore_n (lv' := [(1, .int (nI i)), (0, .ref (ma 0)), (2, .int (nI i))]) (n := 38) hC dX3_first_37 rfl (by decide) rfl rfl ?_
      refine z_iinc (k0 := 2) (v := nI (i + 1)) (lv' := [(2, .int (nI (i + 1))), (1, .int (nI i)), (0, .ref (ma 0))]) (n := 41) hC dX3_first_38 rfl (nI_add i 1) (by decide) rfl rfl ?_
      refine z_goto (n := 4) hC dX3_first_41 (by decide) ?_
      refine z_lv [2, 1, 0] (lv' := [(0, .ref (ma 0)), (1, .int (nI i)), (2, .int (nI (i + 1)))]) rfl ?_
      refine z_leq (lv' := [(0, .ref (ma 0)), (1, .int (ldF sc (i + 1))), (2, .int (nI (i + 1)))]) (by rw [ldF_1 h0]) ?_
      exact ih (i + 1) (by omega) (by omega)
    · have hle := leF_le sc (i - 1)
      refine z_leq (lv' := [(0, .ref (ma 0)), (1, .int (nI (leF sc (i - 1)))), (2, .int (nI i))]) (by rw [ldF_pos h0]) ?_
      refine z_iload_n (n := 13) hC dX3_first_12 rfl 1 rfl rfl ?_
      refine z_iconst (v := (-1)) (n := 14) hC dX3_first_13 (by decide) rfl ?_
      refine z_icmp_eq (tgt := 36) (n := 17) hC dX3_first_14 (by decide) rfl (fun c3 => absurd c3 (nI_m1 (by omega))) (fun c3 => ?_)
      refine z_aload_n (n := 18) hC dX3_first_17 rfl 0 rfl rfl ?_
      refine gf_X3_22 (v := .ref (ma 5)) (n := 21) hC 0 rfl rfl dX3_first_18 rfl ?_
      refine z_iconst (v := nI 1) (n := 22) hC dX3_first_21 (by decide) rfl ?_
      refine z_iload_n (n := 23) hC dX3_first_22 rfl 2 rfl rfl ?_
      refine z_iadd (v := nI (1 + i)) (n := 24) hC dX3_first_23 (nI_add 1 i) rfl ?_
      refine z_iald (v := sc i) (n := 25) hC 5 0 (1 + i) rfl rfl rfl (by omega) (by decide) dX3_first_24 (nw_sc (by omega)) rfl ?_
      refine z_aload_n (n := 26) hC dX3_first_25 rfl 0 rfl rfl ?_
      refine gf_X3_22 (v := .ref (ma 5)) (n := 29) hC 0 rfl rfl dX3_first_26 rfl ?_
      refine z_iconst (v := nI 1) (n := 30) hC dX3_first_29 (by decide) rfl ?_
      refine z_iload_n (n := 31) hC dX3_first_30 rfl 1 rfl rfl ?_
      refine z_iadd (v := nI (1 + leF sc (i - 1))) (n := 32) hC dX3_first_31 (nI_add 1 (leF sc (i - 1))) rfl ?_
      refine z_iald (v := sc (leF sc (i - 1))) (n := 33) hC 5 0 (1 + leF sc (i - 1)) rfl rfl rfl (by omega) (by decide) dX3_first_32 (nw_sc (by omega)) rfl ?_
      refine z_icmp_le (tgt := 38) (n := 36) hC dX3_first_33 (by decide) rfl (fun c4 => ?_) (fun c4 => ?_)
      · refine z_iinc (k0 := 2) (v := nI (i + 1)) (lv' := [(2, .int (nI (i + 1))), (0, .ref (ma 0)), (1, .int (nI (leF sc (i - 1))))]) (n := 41) hC dX3_first_38 rfl (nI_add i 1) (by decide) rfl rfl ?_
        refine z_goto (n := 4) hC dX3_first_41 (by decide) ?_
        refine z_lv [1, 2, 0] (lv' := [(0, .ref (ma 0)), (1, .int (nI (leF sc (i - 1)))), (2, .int (nI (i + 1)))]) rfl ?_
        refine z_leq (lv' := [(0, .ref (ma 0)), (1, .int (ldF sc (i + 1))), (2, .int (nI (i + 1)))]) (by rw [ldF_keep h0 c4]) ?_
        exact ih (i + 1) (by omega) (by omega)
      · refine z_iload_n (n := 37) hC dX3_first_36 rfl 2 rfl rfl ?_
        refine z_istore_n (lv' := [(1, .int (nI i)), (0, .ref (ma 0)), (2, .int (nI i))]) (n := 38) hC dX3_first_37 rfl (by decide) rfl rfl ?_
        refine z_iinc (k0 := 2) (v := nI (i + 1)) (lv' := [(2, .int (nI (i + 1))), (1, .int (nI i)), (0, .ref (ma 0))]) (n := 41) hC dX3_first_38 rfl (nI_add i 1) (by decide) rfl rfl ?_
        refine z_goto (n := 4) hC dX3_first_41 (by decide) ?_
        refine z_lv [2, 1, 0] (lv' := [(0, .ref (ma 0)), (1, .int (nI i)), (2, .int (nI (i + 1)))]) rfl ?_
        refine z_leq (lv' := [(0, .ref (ma 0)), (1, .int (ldF sc (i + 1))), (2, .int (nI (i + 1)))]) (by rw [ldF_take h0 c4]) ?_
        exact ih (i + 1) (by omega) (by omega)

set_option maxRecDepth 100000 in
set_option maxHeartbeats 4000000 in
theorem k_X3_best (l : Launch) (G : va_G) (cI cZ cJ : ClassId) (ma : Nat → Nat) (th : Int32) (n : Nat) (sw : Nat → Int32) (st : Nat → Int32) (b : Nat → Int32) (r : Nat → Int32) (T : Nat) (sc : Nat → Int32) (fi : Nat → Int32) (mi : Nat → Int32) (fa : Nat → Int32) (K : Nat → Int32) (hn : n ≤ 6) (hT : T < 2 ^ 29) : MI (Unit) l yX3_best cX3_best 3 1 22 G (tY cI cZ cJ) [.ref (ma 0)] (wN ma cI th n sw st b r T sc fi mi fa K) (fun zr _ => zr = nI (mkF (beB sc n) n)) (fun _ => wN ma cI th n sw st b r T sc fi mi fa K) 0 0 := by
  refine MI_of (by decide) (Nat.le_of_ble_eq_true rfl) [(0, .ref (ma 0))] rfl ?_
  intro p e s m below meth c hC hr hlocks hname
  have hC : Cx p s m _ c cX3_best 3 RX3 G (tY cI cZ cJ) _ := hC
  refine z_iconst (v := nI 0) (n := 1) hC dX3_best_0 (by decide) rfl ?_
  refine z_istore_n (lv' := [(1, .int (nI 0)), (0, .ref (ma 0))]) (n := 2) hC dX3_best_1 rfl (by decide) rfl rfl ?_
  refine z_iconst (v := nI 0) (n := 3) hC dX3_best_2 (by decide) rfl ?_
  refine z_istore_n (lv' := [(2, .int (nI 0)), (1, .int (nI 0)), (0, .ref (ma 0))]) (n := 4) hC dX3_best_3 rfl (by decide) rfl rfl ?_
  refine z_lv [2, 1, 0] (lv' := [(0, .ref (ma 0)), (1, .int (nI (mkF (beB sc n) 0))), (2, .int (nI 0))]) rfl ?_
  refine z_loop n 0 (fun i => wN ma cI th n sw st b r T sc fi mi fa K) (fun i => [(0, .ref (ma 0)), (1, .int (nI (mkF (beB sc n) i))), (2, .int (nI i))]) (by omega) rfl rfl (fun i hi0 hi1 ih => ?_)
  refine z_iload_n (n := 5) hC dX3_best_4 rfl 2 rfl rfl ?_
  refine z_aload_n (n := 6) hC dX3_best_5 rfl 0 rfl rfl ?_
  refine gf_X3_32 (v := .int (nI n)) (n := 9) hC 0 rfl rfl dX3_best_6 rfl ?_
  refine z_icmp_ge_n (tgt := 46) (n := 12) hC i n rfl rfl (by omega) (by omega) dX3_best_9 (by decide) rfl (fun c1 => ?_) (fun c1 => ?_)
  · obtain rfl : n = i := by omega
    refine z_iload_n (n := 47) hC dX3_best_46 rfl 1 rfl rfl ?_
    refine z_iret hC hr hlocks () ?_ rfl dX3_best_47 (by omega) (by omega)
    rfl
  · refine z_aload_n (n := 13) hC dX3_best_12 rfl 0 rfl rfl ?_
    refine gf_X3_22 (v := .ref (ma 5)) (n := 16) hC 0 rfl rfl dX3_best_13 rfl ?_
    refine z_iconst (v := nI 1) (n := 17) hC dX3_best_16 (by decide) rfl ?_
    refine z_iload_n (n := 18) hC dX3_best_17 rfl 2 rfl rfl ?_
    refine z_iadd (v := nI (1 + i)) (n := 19) hC dX3_best_18 (nI_add 1 i) rfl ?_
    refine z_iald (v := sc i) (n := 20) hC 5 0 (1 + i) rfl rfl rfl (by omega) (by decide) dX3_best_19 (nw_sc (by omega)) rfl ?_
    refine z_aload_n (n := 21) hC dX3_best_20 rfl 0 rfl rfl ?_
    refine gf_X3_22 (v := .ref (ma 5)) (n := 24) hC 0 rfl rfl dX3_best_21 rfl ?_
    refine z_iconst (v := nI 1) (n := 25) hC dX3_best_24 (by decide) rfl ?_
    refine z_aload_n (n := 26) hC dX3_best_25 rfl 0 rfl rfl ?_
    refine z_calli (R := { frames := 1, cells := 0, slots := 0, locals := 22 }) (cells := 0) (slots := 0) (ws := wN ma cI th n sw st b r T sc fi mi fa K) (n := 29) (As := []) (rest := [.int (nI 1), .ref (ma 5), .int (sc i)]) hC (k_X3_first l G cI cZ cJ ma th n sw st b r T sc fi mi fa K (by omega) (by omega)) kg_X3_78 kd_yX3_first dX3_best_26 ⟨Nat.le_of_ble_eq_true rfl, Nat.le_of_ble_eq_true rfl⟩ 0 rfl rfl rfl [0, 1, 2, 3, 4, 5, 6] rfl (by decide) rfl (Nat.le_of_ble_eq_true rfl) ⟨Nat.le_of_ble_eq_true rfl, Nat.le_of_ble_eq_true rfl⟩ (ws2 := fun u2 => wN ma cI th n sw st b r T sc fi mi fa K) [] (fun _ => rfl) ([]) (fun _ => rfl) rfl (fun _ => rfl) [ma 0, ma 1, ma 2, ma 3, ma 4, ma 5, ma 6] (fun _ => rfl) rfl rfl rfl (fun r3 u2 h4 => ?_)
    subst h4
    have h0 : 0 < n := by omega
    have hle := leF_le sc (n - 1)
    refine z_top (y := nI (leF sc (n - 1))) (ldF_pos h0) ?_
    refine z_iadd (v := nI (1 + leF sc (n - 1))) (n := 30) hC dX3_best_29 (nI_add 1 (leF sc (n - 1))) rfl ?_
    refine z_iald (v := sc (leF sc (n - 1))) (n := 31) hC 5 0 (1 + leF sc (n - 1)) rfl rfl rfl (by omega) (by decide) dX3_best_30 (nw_sc (by omega)) rfl ?_
    refine z_icmp_ne (tgt := 40) (n := 34) hC dX3_best_31 (by decide) rfl (fun c5 => ?_) (fun c5 => ?_)
    · refine z_iinc (k0 := 2) (v := nI (i + 1)) (lv' := [(2, .int (nI (i + 1))), (0, .ref (ma 0)), (1, .int (nI (mkF (beB sc n) i)))]) (n := 43) hC dX3_best_40 rfl (nI_add i 1) (by decide) rfl rfl ?_
      refine z_goto (n := 4) hC dX3_best_43 (by decide) ?_
      refine z_lv [1, 2, 0] (lv' := [(0, .ref (ma 0)), (1, .int (nI (mkF (beB sc n) i))), (2, .int (nI (i + 1)))]) rfl ?_
      refine z_leq (lv' := [(0, .ref (ma 0)), (1, .int (nI (mkF (beB sc n) (i + 1)))), (2, .int (nI (i + 1)))]) (by simp [mkF, beB, c1, c5]) ?_
      exact ih (i + 1) (by omega) (by omega)
    · refine z_iload_n (n := 35) hC dX3_best_34 rfl 1 rfl rfl ?_
      refine z_iconst (v := nI 1) (n := 36) hC dX3_best_35 (by decide) rfl ?_
      refine z_iload_n (n := 37) hC dX3_best_36 rfl 2 rfl rfl ?_
      refine z_ishl (v := nI 1 <<< (nI i &&& 31)) (n := 38) hC dX3_best_37 rfl rfl ?_
      refine z_ior (v := nI (mkF (beB sc n) i + 2 ^ i)) (n := 39) hC dX3_best_38 (or_bit _ (by omega)) rfl ?_
      refine z_istore_n (lv' := [(1, .int (nI (mkF (beB sc n) i + 2 ^ i))), (0, .ref (ma 0)), (2, .int (nI i))]) (n := 40) hC dX3_best_39 rfl (by decide) rfl rfl ?_
      refine z_iinc (k0 := 2) (v := nI (i + 1)) (lv' := [(2, .int (nI (i + 1))), (1, .int (nI (mkF (beB sc n) i + 2 ^ i))), (0, .ref (ma 0))]) (n := 43) hC dX3_best_40 rfl (nI_add i 1) (by decide) rfl rfl ?_
      refine z_goto (n := 4) hC dX3_best_43 (by decide) ?_
      refine z_lv [2, 1, 0] (lv' := [(0, .ref (ma 0)), (1, .int (nI (mkF (beB sc n) i + 2 ^ i))), (2, .int (nI (i + 1)))]) rfl ?_
      refine z_leq (lv' := [(0, .ref (ma 0)), (1, .int (nI (mkF (beB sc n) (i + 1)))), (2, .int (nI (i + 1)))]) (by simp [mkF, beB, c1, c5]) ?_
      exact ih (i + 1) (by omega) (by omega)
