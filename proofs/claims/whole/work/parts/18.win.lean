set_option maxRecDepth 100000 in
set_option maxHeartbeats 4000000 in
theorem k_X3_win (l : Launch) (G : va_G) (cI cZ cJ : ClassId) (ma : Nat → Nat) (th : Int32) (n : Nat) (sw : Nat → Int32) (st : Nat → Int32) (b : Nat → Int32) (r : Nat → Int32) (T : Nat) (sc : Nat → Int32) (fi : Nat → Int32) (mi : Nat → Int32) (fa : Nat → Int32) (K : Nat → Int32) (hn : n ≤ 6) (hT : T < 2 ^ 29) (hn0 : 0 < n) (hst : ∀ g, g < n → nI 1 ≤ st g) : MI (Unit) l yX3_win cX3_win 5 2 44 G (tY cI cZ cJ) [.ref (ma 0)] (wN ma cI th n sw st b r T sc fi mi fa K) (fun zr _ => zr = nI (wnF sw st sc fa n)) (fun _ => wN ma cI th n sw st b r T sc fi mi (waF sw st sc fa n) K) 0 0 := by
  refine MI_of (by decide) (Nat.le_of_ble_eq_true rfl) [(0, .ref (ma 0))] rfl ?_
  intro p e s m below meth c hC hr hlocks hname
  have hC : Cx p s m _ c cX3_win 5 RX3 G (tY cI cZ cJ) _ := hC
  refine z_aload_n (n := 1) hC dX3_win_0 rfl 0 rfl rfl ?_
  refine z_calli (R := { frames := 2, cells := 0, slots := 0, locals := 44 }) (cells := 0) (slots := 0) (ws := wN ma cI th n sw st b r T sc fi mi fa K) (n := 4) (As := []) (rest := []) hC (k_X3_best l G cI cZ cJ ma th n sw st b r T sc fi mi fa K (by omega) (by omega)) kg_X3_81 kd_yX3_best dX3_win_1 ⟨Nat.le_of_ble_eq_true rfl, Nat.le_of_ble_eq_true rfl⟩ 0 rfl rfl rfl [0, 1, 2, 3, 4, 5, 6] rfl (by decide) rfl (Nat.le_of_ble_eq_true rfl) ⟨Nat.le_of_ble_eq_true rfl, Nat.le_of_ble_eq_true rfl⟩ (ws2 := fun u1 => wN ma cI th n sw st b r T sc fi mi fa K) [] (fun _ => rfl) ([]) (fun _ => rfl) rfl (fun _ => rfl) [ma 0, ma 1, ma 2, ma 3, ma 4, ma 5, ma 6] (fun _ => rfl) rfl rfl rfl (fun r2 u1 h3 => ?_)
  subst h3
  refine z_istore_n (lv' := [(1, .int (nI (mkF (beB sc n) n))), (0, .ref (ma 0))]) (n := 5) hC dX3_win_4 rfl (by decide) rfl rfl ?_
  refine z_iconst (v := nI 1) (n := 6) hC dX3_win_5 (by decide) rfl ?_
  refine z_istore_n (lv' := [(2, .int (nI 1)), (1, .int (nI (mkF (beB sc n) n))), (0, .ref (ma 0))]) (n := 7) hC dX3_win_6 rfl (by decide) rfl rfl ?_
  refine z_lv [2, 1, 0] (lv' := [(0, .ref (ma 0)), (1, .int (nI (mkF (beB sc n) n))), (2, .int (nI 1))]) rfl ?_
  refine z_loopS (σ := (Nat → Bool) × (Nat → Int32)) 10 1 (fun i u => soF sw st n (10 - i) i u.1 u.2 = soF sw st n 9 1 (beB sc n) fa) (fun i u => wN ma cI th n sw st b r T sc fi mi u.2 K) (fun i u => [(0, .ref (ma 0)), (1, .int (nI (mkF u.1 n))), (2, .int (nI i))]) (fun _ => 0) (fun _ => 0) (beB sc n, fa) (by omega) (rfl) rfl rfl (Nat.le_refl _) (Nat.le_refl _) (fun i u hi0 hi1 hu ih => ?_)
  refine z_iload_n (n := 8) hC dX3_win_7 rfl 2 rfl rfl ?_
  refine z_bipush (v := nI 9) (n := 10) hC dX3_win_8 (by decide) rfl ?_
  refine z_icmp_gt_n (tgt := 123) (n := 13) hC i 9 rfl rfl (by omega) (by omega) dX3_win_10 (by decide) rfl (fun c4 => ?_) (fun c4 => ?_)
  · obtain rfl : 10 = i := by omega
    have hres : soF sw st n 9 1 (beB sc n) fa = (u.1, u.2) := hu.symm
    have e1 : wnF sw st sc fa n = fiN u.1 n := by unfold wnF; rw [hres]
    have e2 : waF sw st sc fa n = u.2 := by unfold waF; rw [hres]
    have hxx : fiN u.1 n < n := e1 ▸ wnF_lt hn0
    refine z_iload_n (n := 124) hC dX3_win_123 rfl 1 rfl rfl ?_
    refine z_callsi (R := { frames := 2, cells := 0, slots := 0, locals := 44 }) (cells := 0) (slots := 0) (ws := wN ma cI th n sw st b r T sc fi mi u.2 K) (n := 127) (As := [.int (nI (mkF u.1 n))]) (rest := []) hC (k_J6_numberOfTrailingZeros_0f7a4 l G cI cZ cJ u.1 n (by omega) hxx) kg_X3_89 kd_yJ6_numberOfTrailingZeros_0f7a4 dX3_win_124 ⟨Nat.le_of_ble_eq_true rfl, Nat.le_of_ble_eq_true rfl⟩ [] rfl (by decide) rfl (Nat.le_of_ble_eq_true rfl) ⟨Nat.le_of_ble_eq_true rfl, Nat.le_of_ble_eq_true rfl⟩ (ws2 := fun u5 => wN ma cI th n sw st b r T sc fi mi u.2 K) [0, 1, 2, 3, 4, 5, 6] (fun _ => rfl) (wN ma cI th n sw st b r T sc fi mi u.2 K) (fun _ => rfl) rfl (fun _ => rfl) [] (fun _ => rfl) rfl rfl rfl (fun r6 u5 h7 => ?_)
    subst h7
    refine z_iret hC hr hlocks () ?_ (by rw [e2]) dX3_win_127 (by omega) (by omega)
    rw [e1]
  · refine z_iload_n (n := 14) hC dX3_win_13 rfl 1 rfl rfl ?_
    refine z_callsi (R := { frames := 2, cells := 0, slots := 0, locals := 44 }) (cells := 0) (slots := 0) (ws := wN ma cI th n sw st b r T sc fi mi u.2 K) (n := 17) (As := [.int (nI (mkF u.1 n))]) (rest := []) hC (k_J6_bitCount_0f7a4 l G cI cZ cJ u.1 n (by omega)) kg_X3_84 kd_yJ6_bitCount_0f7a4 dX3_win_14 ⟨Nat.le_of_ble_eq_true rfl, Nat.le_of_ble_eq_true rfl⟩ [] rfl (by decide) rfl (Nat.le_of_ble_eq_true rfl) ⟨Nat.le_of_ble_eq_true rfl, Nat.le_of_ble_eq_true rfl⟩ (ws2 := fun u8 => wN ma cI th n sw st b r T sc fi mi u.2 K) [0, 1, 2, 3, 4, 5, 6] (fun _ => rfl) (wN ma cI th n sw st b r T sc fi mi u.2 K) (fun _ => rfl) rfl (fun _ => rfl) [] (fun _ => rfl) rfl rfl rfl (fun r9 u8 h10 => ?_)
    subst h10
    have hcl := ctF_le u.1 n
    refine z_iconst (v := nI 1) (n := 18) hC dX3_win_17 (by decide) rfl ?_
    refine z_icmp_le_n (tgt := 123) (n := 21) hC (ctF u.1 n) 1 rfl rfl (by omega) (by omega) dX3_win_18 (by decide) rfl (fun c11 => ?_) (fun c11 => ?_)
    · have hres := so_stop (by omega) hu c11
      have e1 : wnF sw st sc fa n = fiN u.1 n := by unfold wnF; rw [hres]
      have e2 : waF sw st sc fa n = u.2 := by unfold waF; rw [hres]
      have hxx : fiN u.1 n < n := e1 ▸ wnF_lt hn0
      refine z_iload_n (n := 124) hC dX3_win_123 rfl 1 rfl rfl ?_
      refine z_callsi (R := { frames := 2, cells := 0, slots := 0, locals := 44 }) (cells := 0) (slots := 0) (ws := wN ma cI th n sw st b r T sc fi mi u.2 K) (n := 127) (As := [.int (nI (mkF u.1 n))]) (rest := []) hC (k_J6_numberOfTrailingZeros_0f7a4 l G cI cZ cJ u.1 n (by omega) hxx) kg_X3_89 kd_yJ6_numberOfTrailingZeros_0f7a4 dX3_win_124 ⟨Nat.le_of_ble_eq_true rfl, Nat.le_of_ble_eq_true rfl⟩ [] rfl (by decide) rfl (Nat.le_of_ble_eq_true rfl) ⟨Nat.le_of_ble_eq_true rfl, Nat.le_of_ble_eq_true rfl⟩ (ws2 := fun u12 => wN ma cI th n sw st b r T sc fi mi u.2 K) [0, 1, 2, 3, 4, 5, 6] (fun _ => rfl) (wN ma cI th n sw st b r T sc fi mi u.2 K) (fun _ => rfl) rfl (fun _ => rfl) [] (fun _ => rfl) rfl rfl rfl (fun r13 u12 h14 => ?_)
      subst h14
      refine z_iret hC hr hlocks () ?_ (by rw [e2]) dX3_win_127 (by omega) (by omega)
      rw [e1]
    · refine z_iconst (v := nI 0) (n := 22) hC dX3_win_21 (by decide) rfl ?_
      refine z_istore_n (lv' := [(3, .int (nI 0)), (0, .ref (ma 0)), (1, .int (nI (mkF u.1 n))), (2, .int (nI i))]) (n := 23) hC dX3_win_22 rfl (by decide) rfl rfl ?_
      refine z_iconst (v := nI 0) (n := 24) hC dX3_win_23 (by decide) rfl ?_
      refine z_istore (lv' := [(4, .int (nI 0)), (3, .int (nI 0)), (0, .ref (ma 0)), (1, .int (nI (mkF u.1 n))), (2, .int (nI i))]) (n := 26) hC dX3_win_24 (by decide) rfl rfl ?_
      refine z_lv [2, 3, 4, 1, 0] (lv' := [(0, .ref (ma 0)), (1, .int (nI (mkF u.1 n))), (2, .int (nI i)), (3, .int (nI (mkF (htB sw st u.2 u.1 (nI (6 * i))) 0))), (4, .int (nI 0))]) rfl ?_
      refine z_weq (ws' := wN ma cI th n sw st b r T sc fi mi (pwF u.2 (upA u.2 u.1) 0) K) (by simp only [pwF_0]) ?_
      refine z_loop n 0 (fun j => wN ma cI th n sw st b r T sc fi mi (pwF u.2 (upA u.2 u.1) j) K) (fun j => [(0, .ref (ma 0)), (1, .int (nI (mkF u.1 n))), (2, .int (nI i)), (3, .int (nI (mkF (htB sw st u.2 u.1 (nI (6 * i))) j))), (4, .int (nI j))]) (by omega) rfl rfl (fun j hi0j hi1j ihj => ?_)
      refine z_iload (n := 28) hC dX3_win_26 4 rfl rfl ?_
      refine z_aload_n (n := 29) hC dX3_win_28 rfl 0 rfl rfl ?_
      refine gf_X3_32 (v := .int (nI n)) (n := 32) hC 0 rfl rfl dX3_win_29 rfl ?_
      refine z_icmp_ge_n (tgt := 107) (n := 35) hC j n rfl rfl (by omega) (by omega) dX3_win_32 (by decide) rfl (fun c15 => ?_) (fun c15 => ?_)
      · obtain rfl : n = j := by omega
        refine z_iload_n (n := 108) hC dX3_win_107 rfl 3 rfl rfl ?_
        refine z_if_ne (tgt := 115) (n := 111) hC dX3_win_108 (by decide) rfl (fun c16 => ?_) (fun c16 => ?_)
        · refine z_iload_n (n := 116) hC dX3_win_115 rfl 3 rfl rfl ?_
          refine z_istore_n (lv' := [(1, .int (nI (mkF (htB sw st u.2 u.1 (nI (6 * i))) n))), (0, .ref (ma 0)), (2, .int (nI i)), (3, .int (nI (mkF (htB sw st u.2 u.1 (nI (6 * i))) n))), (4, .int (nI n))]) (n := 117) hC dX3_win_116 rfl (by decide) rfl rfl ?_
          refine z_iinc (k0 := 2) (v := nI (i + 1)) (lv' := [(2, .int (nI (i + 1))), (1, .int (nI (mkF (htB sw st u.2 u.1 (nI (6 * i))) n))), (0, .ref (ma 0)), (3, .int (nI (mkF (htB sw st u.2 u.1 (nI (6 * i))) n))), (4, .int (nI n))]) (n := 120) hC dX3_win_117 rfl (nI_add i 1) (by decide) rfl rfl ?_
          refine z_goto (n := 7) hC dX3_win_120 (by decide) ?_
          refine z_lv [2, 1, 0] (lv' := [(0, .ref (ma 0)), (1, .int (nI (mkF (htB sw st u.2 u.1 (nI (6 * i))) n))), (2, .int (nI (i + 1)))]) rfl ?_
          refine z_leq (lv' := [(0, .ref (ma 0)), (1, .int (nI (mkF (soL sw st u.2 u.1 n (nI (6 * i)), pwF u.2 (upA u.2 u.1) n).1 n))), (2, .int (nI (i + 1)))]) (by rw [show mkF (soL sw st u.2 u.1 n (nI (6 * i))) n = mkF (htB sw st u.2 u.1 (nI (6 * i))) n from mk_so1 (by simpa [nI_z (mkF_64 _ hn)] using c16)]) ?_
          refine z_weq (ws' := wN ma cI th n sw st b r T sc fi mi ((soL sw st u.2 u.1 n (nI (6 * i)), pwF u.2 (upA u.2 u.1) n).2) K) (rfl) ?_
          exact ih (i + 1) (soL sw st u.2 u.1 n (nI (6 * i)), pwF u.2 (upA u.2 u.1) n) (by omega) (by omega) (so_go (by omega) hu (by omega))
        · refine z_iload_n (n := 112) hC dX3_win_111 rfl 1 rfl rfl ?_
          refine z_goto (n := 116) hC dX3_win_112 (by decide) ?_
          refine z_istore_n (lv' := [(1, .int (nI (mkF u.1 n))), (0, .ref (ma 0)), (2, .int (nI i)), (3, .int (nI (mkF (htB sw st u.2 u.1 (nI (6 * i))) n))), (4, .int (nI n))]) (n := 117) hC dX3_win_116 rfl (by decide) rfl rfl ?_
          refine z_iinc (k0 := 2) (v := nI (i + 1)) (lv' := [(2, .int (nI (i + 1))), (1, .int (nI (mkF u.1 n))), (0, .ref (ma 0)), (3, .int (nI (mkF (htB sw st u.2 u.1 (nI (6 * i))) n))), (4, .int (nI n))]) (n := 120) hC dX3_win_117 rfl (nI_add i 1) (by decide) rfl rfl ?_
          refine z_goto (n := 7) hC dX3_win_120 (by decide) ?_
          refine z_lv [2, 1, 0] (lv' := [(0, .ref (ma 0)), (1, .int (nI (mkF u.1 n))), (2, .int (nI (i + 1)))]) rfl ?_
          refine z_leq (lv' := [(0, .ref (ma 0)), (1, .int (nI (mkF (soL sw st u.2 u.1 n (nI (6 * i)), pwF u.2 (upA u.2 u.1) n).1 n))), (2, .int (nI (i + 1)))]) (by rw [show mkF (soL sw st u.2 u.1 n (nI (6 * i))) n = mkF u.1 n from mk_so0 (by simpa [nI_z (mkF_64 _ hn)] using c16)]) ?_
          refine z_weq (ws' := wN ma cI th n sw st b r T sc fi mi ((soL sw st u.2 u.1 n (nI (6 * i)), pwF u.2 (upA u.2 u.1) n).2) K) (rfl) ?_
          exact ih (i + 1) (soL sw st u.2 u.1 n (nI (6 * i)), pwF u.2 (upA u.2 u.1) n) (by omega) (by omega) (so_go (by omega) hu (by omega))
      · refine z_iload_n (n := 36) hC dX3_win_35 rfl 1 rfl rfl ?_
        refine z_iload (n := 38) hC dX3_win_36 4 rfl rfl ?_
        refine z_ishr (v := nI (mkF u.1 n) >>> (nI j &&& 31)) (n := 39) hC dX3_win_38 rfl rfl ?_
        refine z_iconst (v := nI 1) (n := 40) hC dX3_win_39 (by decide) rfl ?_
        refine z_iand (v := bN (u.1 j)) (n := 41) hC dX3_win_40 (bit_mk _ hn (by omega)) rfl ?_
        refine z_if_ne_b (tgt := 47) (n := 44) hC (u.1 j) rfl dX3_win_41 (by decide) rfl (fun c17 => ?_) (fun c17 => ?_)
        · refine z_bipush (v := nI 6) (n := 49) hC dX3_win_47 (by decide) rfl ?_
          refine z_iload_n (n := 50) hC dX3_win_49 rfl 2 rfl rfl ?_
          refine z_imul (v := nI (6 * i)) (n := 51) hC dX3_win_50 (pk_mul 6 i) rfl ?_
          refine z_aload_n (n := 52) hC dX3_win_51 rfl 0 rfl rfl ?_
          refine gf_X3_22 (v := .ref (ma 5)) (n := 55) hC 0 rfl rfl dX3_win_52 rfl ?_
          refine z_bipush (v := nI 19) (n := 57) hC dX3_win_55 (by decide) rfl ?_
          refine z_iload (n := 59) hC dX3_win_57 4 rfl rfl ?_
          refine z_iadd (v := nI (19 + j)) (n := 60) hC dX3_win_59 (nI_add 19 j) rfl ?_
          refine z_iald (v := u.2 j) (n := 61) hC 5 0 (19 + j) rfl rfl rfl (by omega) (by decide) dX3_win_60 ((nw_fa).trans (pwF_at (Nat.le_refl _))) rfl ?_
          refine z_aload_n (n := 62) hC dX3_win_61 rfl 0 rfl rfl ?_
          refine gf_X3_13 (v := .ref (ma 2)) (n := 65) hC 0 rfl rfl dX3_win_62 rfl ?_
          refine z_iload (n := 67) hC dX3_win_65 4 rfl rfl ?_
          refine z_iald (v := st j) (n := 68) hC 2 0 j rfl rfl rfl (by omega) (by decide) dX3_win_67 rfl rfl ?_
          refine z_idiv (v := u.2 j / st j) (n := 69) hC dX3_win_68 (ne0_1 (hst j (by omega))) rfl rfl ?_
          refine z_iadd (v := (nI (6 * i)) + (u.2 j / st j)) (n := 70) hC dX3_win_69 rfl rfl ?_
          refine z_aload_n (n := 71) hC dX3_win_70 rfl 0 rfl rfl ?_
          refine gf_X3_9 (v := .ref (ma 1)) (n := 74) hC 0 rfl rfl dX3_win_71 rfl ?_
          refine z_iload (n := 76) hC dX3_win_74 4 rfl rfl ?_
          refine z_iald (v := sw j) (n := 77) hC 1 0 j rfl rfl rfl (by omega) (by decide) dX3_win_76 rfl rfl ?_
          refine z_icmp_gt (tgt := 87) (n := 80) hC dX3_win_77 (by decide) rfl (fun c18 => ?_) (fun c18 => ?_)
          · refine z_aload_n (n := 88) hC dX3_win_87 rfl 0 rfl rfl ?_
            refine gf_X3_22 (v := .ref (ma 5)) (n := 91) hC 0 rfl rfl dX3_win_88 rfl ?_
            refine z_bipush (v := nI 19) (n := 93) hC dX3_win_91 (by decide) rfl ?_
            refine z_iload (n := 95) hC dX3_win_93 4 rfl rfl ?_
            refine z_iadd (v := nI (19 + j)) (n := 96) hC dX3_win_95 (nI_add 19 j) rfl ?_
            refine z_dup2 (n := 97) hC dX3_win_96 rfl rfl rfl ?_
            refine z_iald (v := u.2 j) (n := 98) hC 5 0 (19 + j) rfl rfl rfl (by omega) (by decide) dX3_win_97 ((nw_fa).trans (pwF_at (Nat.le_refl _))) rfl ?_
            refine z_iconst (v := nI 1) (n := 99) hC dX3_win_98 (by decide) rfl ?_
            refine z_iadd (v := (u.2 j) + (nI 1)) (n := 100) hC dX3_win_99 rfl rfl ?_
            refine z_iast (ws' := wN ma cI th n sw st b r T sc fi mi (pwF u.2 (upA u.2 u.1) (j + 1)) K) (n := 101) hC 5 0 (19 + j) rfl rfl rfl (by omega) (by decide) dX3_win_100 ((nwu_fa).trans (congrArg (fun z => nowF T sc fi mi z) (pwF_e (by simp [upA, c4, c11, c15, c17, c18])))) rfl rfl ?_
            refine z_iinc (k0 := 4) (v := nI (j + 1)) (lv' := [(4, .int (nI (j + 1))), (0, .ref (ma 0)), (1, .int (nI (mkF u.1 n))), (2, .int (nI i)), (3, .int (nI (mkF (htB sw st u.2 u.1 (nI (6 * i))) j)))]) (n := 104) hC dX3_win_101 rfl (nI_add j 1) (by decide) rfl rfl ?_
            refine z_goto (n := 26) hC dX3_win_104 (by decide) ?_
            refine z_lv [1, 2, 3, 4, 0] (lv' := [(0, .ref (ma 0)), (1, .int (nI (mkF u.1 n))), (2, .int (nI i)), (3, .int (nI (mkF (htB sw st u.2 u.1 (nI (6 * i))) j))), (4, .int (nI (j + 1)))]) rfl ?_
            refine z_leq (lv' := [(0, .ref (ma 0)), (1, .int (nI (mkF u.1 n))), (2, .int (nI i)), (3, .int (nI (mkF (htB sw st u.2 u.1 (nI (6 * i))) (j + 1)))), (4, .int (nI (j + 1)))]) (by simp [mkF, htB, trF, hst j (by omega), c4, c11, c15, c17, c18]) ?_
            exact ihj (j + 1) (by omega) (by omega)
          · refine z_iload_n (n := 81) hC dX3_win_80 rfl 3 rfl rfl ?_
            refine z_iconst (v := nI 1) (n := 82) hC dX3_win_81 (by decide) rfl ?_
            refine z_iload (n := 84) hC dX3_win_82 4 rfl rfl ?_
            refine z_ishl (v := nI 1 <<< (nI j &&& 31)) (n := 85) hC dX3_win_84 rfl rfl ?_
            refine z_ior (v := nI (mkF (htB sw st u.2 u.1 (nI (6 * i))) j + 2 ^ j)) (n := 86) hC dX3_win_85 (or_bit _ (by omega)) rfl ?_
            refine z_istore_n (lv' := [(3, .int (nI (mkF (htB sw st u.2 u.1 (nI (6 * i))) j + 2 ^ j))), (0, .ref (ma 0)), (1, .int (nI (mkF u.1 n))), (2, .int (nI i)), (4, .int (nI j))]) (n := 87) hC dX3_win_86 rfl (by decide) rfl rfl ?_
            refine z_aload_n (n := 88) hC dX3_win_87 rfl 1 rfl rfl ?_
            refine gf_X3_22 (v := .ref (ma 5)) (n := 91) hC 0 rfl rfl dX3_win_88 rfl ?_
            refine z_bipush (v := nI 19) (n := 93) hC dX3_win_91 (by decide) rfl ?_
            refine z_iload (n := 95) hC dX3_win_93 4 rfl rfl ?_
            refine z_iadd (v := nI (19 + j)) (n := 96) hC dX3_win_95 (nI_add 19 j) rfl ?_
            refine z_dup2 (n := 97) hC dX3_win_96 rfl rfl rfl ?_
            refine z_iald (v := u.2 j) (n := 98) hC 5 0 (19 + j) rfl rfl rfl (by omega) (by decide) dX3_win_97 ((nw_fa).trans (pwF_at (Nat.le_refl _))) rfl ?_
            refine z_iconst (v := nI 1) (n := 99) hC dX3_win_98 (by decide) rfl ?_
            refine z_iadd (v := (u.2 j) + (nI 1)) (n := 100) hC dX3_win_99 rfl rfl ?_
            refine z_iast (ws' := wN ma cI th n sw st b r T sc fi mi (pwF u.2 (upA u.2 u.1) (j + 1)) K) (n := 101) hC 5 0 (19 + j) rfl rfl rfl (by omega) (by decide) dX3_win_100 ((nwu_fa).trans (congrArg (fun z => nowF T sc fi mi z) (pwF_e (by simp [upA, c4, c11, c15, c17, c18])))) rfl rfl ?_
            refine z_iinc (k0 := 4) (v := nI (j + 1)) (lv' := [(4, .int (nI (j + 1))), (3, .int (nI (mkF (htB sw st u.2 u.1 (nI (6 * i))) j + 2 ^ j))), (0, .ref (ma 0)), (1, .int (nI (mkF u.1 n))), (2, .int (nI i))]) (n := 104) hC dX3_win_101 rfl (nI_add j 1) (by decide) rfl rfl ?_
            refine z_goto (n := 26) hC dX3_win_104 (by decide) ?_
            refine z_lv [2, 3, 4, 1, 0] (lv' := [(0, .ref (ma 0)), (1, .int (nI (mkF u.1 n))), (2, .int (nI i)), (3, .int (nI (mkF (htB sw st u.2 u.1 (nI (6 * i))) j + 2 ^ j))), (4, .int (nI (j + 1)))]) rfl ?_
            refine z_leq (lv' := [(0, .ref (ma 0)), (1, .int (nI (mkF u.1 n))), (2, .int (nI i)), (3, .int (nI (mkF (htB sw st u.2 u.1 (nI (6 * i))) (j + 1)))), (4, .int (nI (j + 1)))]) (by simp [mkF, htB, trF, hst j (by omega), c4, c11, c15, c17, c18]) ?_
            exact ihj (j + 1) (by omega) (by omega)
        · refine z_goto (n := 101) hC dX3_win_44 (by decide) ?_
          refine z_iinc (k0 := 4) (v := nI (j + 1)) (lv' := [(4, .int (nI (j + 1))), (0, .ref (ma 0)), (1, .int (nI (mkF u.1 n))), (2, .int (nI i)), (3, .int (nI (mkF (htB sw st u.2 u.1 (nI (6 * i))) j)))]) (n := 104) hC dX3_win_101 rfl (nI_add j 1) (by decide) rfl rfl ?_
          refine z_goto (n := 26) hC dX3_win_104 (by decide) ?_
          refine z_lv [1, 2, 3, 4, 0] (lv' := [(0, .ref (ma 0)), (1, .int (nI (mkF u.1 n))), (2, .int (nI i)), (3, .int (nI (mkF (htB sw st u.2 u.1 (nI (6 * i))) j))), (4, .int (nI (j + 1)))]) rfl ?_
          refine z_leq (lv' := [(0, .ref (ma 0)), (1, .int (nI (mkF u.1 n))), (2, .int (nI i)), (3, .int (nI (mkF (htB sw st u.2 u.1 (nI (6 * i))) (j + 1)))), (4, .int (nI (j + 1)))]) (by simp [mkF, htB, trF, hst j (by omega), c4, c11, c15, c17]) ?_
          refine z_weq (ws' := wN ma cI th n sw st b r T sc fi mi (pwF u.2 (upA u.2 u.1) (j + 1)) K) (by rw [pwF_k (f := u.2) (h := upA u.2 u.1) (k := j) (by simp [upA, c4, c11, c15, c17])]) ?_
          exact ihj (j + 1) (by omega) (by omega)
