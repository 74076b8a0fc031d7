/-! the loop, and the beginning -/
set_option maxRecDepth 100000 in
set_option maxHeartbeats 4000000 in
/-- the loop: from any state that keeps the bounds the law comes to its end -/
theorem law_loop (p : Program) (l : Launch) (e : Env) (s : State) (m : MethodId) (args : Array Value) (below : List Frame) (meth : Method) (c : Code) (G : va_G) (A : Nat → Prop) (Q : State → Prop) (cI cZ cJ : ClassId) (b0 h o : Nat) (ta sa ua ma : Nat → Nat) (L : Nat) (xs : Nat → Int32) (hW : LX p l s m args c G A cI cZ cJ b0 L xs)
    (hend : ∀ (cells slots : Nat) (ws : va_W) (lv : List (Nat × Value)), cells ≤ 1080188 → slots ≤ 5855541 → ZZ p l e room_1 s m args below meth c G A 9 cells slots Q ws lv 1454 []) : ∀ j : Nat, j ≤ 513 → LPj p l e s m args below meth c G A Q cI cZ cJ b0 h o ta sa ua ma j := by
  have key : ∀ (d j : Nat), 513 - j = d → j ≤ 513 → LPj p l e s m args below meth c G A Q cI cZ cJ b0 h o ta sa ua ma j := by
    intro d
    induction d using Nat.strongRecOn with
    | ind d ih0 =>
      intro j hd hj9 i T b r sw st fa sc fi mi lf hi n sw2 st2 fa2 sc2 fi2 mi2 lf2 hi2 n2 th K ov hi0 hI
      obtain ⟨hC, hl, hz, hX, hb0, hbA, hL⟩ := id hW
      by_cases hiL : i + 4 ≤ L
      · have ih : LPj p l e s m args below meth c G A Q cI cZ cJ b0 h o ta sa ua ma (j + 1) := ih0 (513 - (j + 1)) (by omega) (j + 1) rfl (by omega)
        have hlen : ¬ (nI L - nI 4) < nI i := by
          rw [Int32.lt_iff_toInt_lt, pk_sub_toInt (by omega) (by decide), nI_toInt (by omega)]
          omega
        obtain ⟨k, hk, hx⟩ := and31 (xs i)
        have hsw : ZZ p l e room_1 s m args below meth c G A 9 (30 + 7 * j) (211 + 66 * j) Q ((wH h ta sa ua T) ++ (wT ta cI b r) ++ (wS sa cI cZ sw st fa sc fi mi lf hi n) ++ (wS ua cI cZ sw2 st2 fa2 sc2 fi2 mi2 lf2 hi2 n2) ++ (wN ma cI th n sw st b r T sc fi mi fa K) ++ (wO o cJ ov)) [(0, .ref b0), (1, .ref h), (2, .ref (ma 0)), (3, .ref o), (4, .int (nI i))] 39 [.int (nI k)] := by
          by_cases hk27 : 27 ≤ k
          · refine z_tswO (q := k) (tgt := 1448) hC dL_law_39 rfl (by omega) (by omega) (by decide) ?_
            exact c_none p l e s m args below meth c G A Q cI cZ cJ b0 h o ta sa ua ma L xs i j T b r sw st fa sc fi mi lf hi n sw2 st2 fa2 sc2 fi2 mi2 lf2 hi2 n2 th K ov hW hI hi0 hiL ih
          clear hx
          rcases (show k = 0 ∨ k = 1 ∨ k = 2 ∨ k = 3 ∨ k = 4 ∨ k = 5 ∨ k = 6 ∨ k = 7 ∨ k = 8 ∨ k = 9 ∨ k = 10 ∨ k = 11 ∨ k = 12 ∨ k = 13 ∨ k = 14 ∨ k = 15 ∨ k = 16 ∨ k = 17 ∨ k = 18 ∨ k = 19 ∨ k = 20 ∨ k = 21 ∨ k = 22 ∨ k = 23 ∨ k = 24 ∨ k = 25 ∨ k = 26 by omega) with rfl | rfl | rfl | rfl | rfl | rfl | rfl | rfl | rfl | rfl | rfl | rfl | rfl | rfl | rfl | rfl | rfl | rfl | rfl | rfl | rfl | rfl | rfl | rfl | rfl | rfl | rfl
          · refine z_tswI (q := 0) (tgt := 160) hC dL_law_39 rfl (by decide) rfl (by decide) rfl (by decide) ?_
            exact sw_0 p l e s m args below meth c G A Q cI cZ cJ b0 h o ta sa ua ma L xs i j T b r sw st fa sc fi mi lf hi n sw2 st2 fa2 sc2 fi2 mi2 lf2 hi2 n2 th K ov hW hI hi0 hiL ih
          · refine z_tswI (q := 1) (tgt := 228) hC dL_law_39 rfl (by decide) rfl (by decide) rfl (by decide) ?_
            exact sw_1 p l e s m args below meth c G A Q cI cZ cJ b0 h o ta sa ua ma L xs i j T b r sw st fa sc fi mi lf hi n sw2 st2 fa2 sc2 fi2 mi2 lf2 hi2 n2 th K ov hW hI hi0 hiL ih
          · refine z_tswI (q := 2) (tgt := 308) hC dL_law_39 rfl (by decide) rfl (by decide) rfl (by decide) ?_
            exact sw_2 p l e s m args below meth c G A Q cI cZ cJ b0 h o ta sa ua ma L xs i j T b r sw st fa sc fi mi lf hi n sw2 st2 fa2 sc2 fi2 mi2 lf2 hi2 n2 th K ov hW hI hi0 hiL ih
          · refine z_tswI (q := 3) (tgt := 364) hC dL_law_39 rfl (by decide) rfl (by decide) rfl (by decide) ?_
            exact sw_3 p l e s m args below meth c G A Q cI cZ cJ b0 h o ta sa ua ma L xs i j T b r sw st fa sc fi mi lf hi n sw2 st2 fa2 sc2 fi2 mi2 lf2 hi2 n2 th K ov hW hI hi0 hiL ih
          · refine z_tswI (q := 4) (tgt := 420) hC dL_law_39 rfl (by decide) rfl (by decide) rfl (by decide) ?_
            exact sw_4 p l e s m args below meth c G A Q cI cZ cJ b0 h o ta sa ua ma L xs i j T b r sw st fa sc fi mi lf hi n sw2 st2 fa2 sc2 fi2 mi2 lf2 hi2 n2 th K ov hW hI hi0 hiL ih
          · refine z_tswI (q := 5) (tgt := 464) hC dL_law_39 rfl (by decide) rfl (by decide) rfl (by decide) ?_
            exact sw_5 p l e s m args below meth c G A Q cI cZ cJ b0 h o ta sa ua ma L xs i j T b r sw st fa sc fi mi lf hi n sw2 st2 fa2 sc2 fi2 mi2 lf2 hi2 n2 th K ov hW hI hi0 hiL ih
          · refine z_tswI (q := 6) (tgt := 477) hC dL_law_39 rfl (by decide) rfl (by decide) rfl (by decide) ?_
            exact sw_6 p l e s m args below meth c G A Q cI cZ cJ b0 h o ta sa ua ma L xs i j T b r sw st fa sc fi mi lf hi n sw2 st2 fa2 sc2 fi2 mi2 lf2 hi2 n2 th K ov hW hI hi0 hiL ih
          · refine z_tswI (q := 7) (tgt := 545) hC dL_law_39 rfl (by decide) rfl (by decide) rfl (by decide) ?_
            exact sw_7 p l e s m args below meth c G A Q cI cZ cJ b0 h o ta sa ua ma L xs i j T b r sw st fa sc fi mi lf hi n sw2 st2 fa2 sc2 fi2 mi2 lf2 hi2 n2 th K ov hW hI hi0 hiL ih
          · refine z_tswI (q := 8) (tgt := 601) hC dL_law_39 rfl (by decide) rfl (by decide) rfl (by decide) ?_
            exact sw_8 p l e s m args below meth c G A Q cI cZ cJ b0 h o ta sa ua ma L xs i j T b r sw st fa sc fi mi lf hi n sw2 st2 fa2 sc2 fi2 mi2 lf2 hi2 n2 th K ov hW hI hi0 hiL ih
          · refine z_tswI (q := 9) (tgt := 657) hC dL_law_39 rfl (by decide) rfl (by decide) rfl (by decide) ?_
            exact sw_9 p l e s m args below meth c G A Q cI cZ cJ b0 h o ta sa ua ma L xs i j T b r sw st fa sc fi mi lf hi n sw2 st2 fa2 sc2 fi2 mi2 lf2 hi2 n2 th K ov hW hI hi0 hiL ih
          · refine z_tswI (q := 10) (tgt := 713) hC dL_law_39 rfl (by decide) rfl (by decide) rfl (by decide) ?_
            exact sw_10 p l e s m args below meth c G A Q cI cZ cJ b0 h o ta sa ua ma L xs i j T b r sw st fa sc fi mi lf hi n sw2 st2 fa2 sc2 fi2 mi2 lf2 hi2 n2 th K ov hW hI hi0 hiL ih
          · refine z_tswI (q := 11) (tgt := 726) hC dL_law_39 rfl (by decide) rfl (by decide) rfl (by decide) ?_
            exact sw_11 p l e s m args below meth c G A Q cI cZ cJ b0 h o ta sa ua ma L xs i j T b r sw st fa sc fi mi lf hi n sw2 st2 fa2 sc2 fi2 mi2 lf2 hi2 n2 th K ov hW hI hi0 hiL ih
          · refine z_tswI (q := 12) (tgt := 782) hC dL_law_39 rfl (by decide) rfl (by decide) rfl (by decide) ?_
            exact sw_12 p l e s m args below meth c G A Q cI cZ cJ b0 h o ta sa ua ma L xs i j T b r sw st fa sc fi mi lf hi n sw2 st2 fa2 sc2 fi2 mi2 lf2 hi2 n2 th K ov hW hI hi0 hiL ih
          · refine z_tswI (q := 13) (tgt := 838) hC dL_law_39 rfl (by decide) rfl (by decide) rfl (by decide) ?_
            exact sw_13 p l e s m args below meth c G A Q cI cZ cJ b0 h o ta sa ua ma L xs i j T b r sw st fa sc fi mi lf hi n sw2 st2 fa2 sc2 fi2 mi2 lf2 hi2 n2 th K ov hW hI hi0 hiL ih
          · refine z_tswI (q := 14) (tgt := 894) hC dL_law_39 rfl (by decide) rfl (by decide) rfl (by decide) ?_
            exact sw_14 p l e s m args below meth c G A Q cI cZ cJ b0 h o ta sa ua ma L xs i j T b r sw st fa sc fi mi lf hi n sw2 st2 fa2 sc2 fi2 mi2 lf2 hi2 n2 th K ov hW hI hi0 hiL ih
          · refine z_tswI (q := 15) (tgt := 950) hC dL_law_39 rfl (by decide) rfl (by decide) rfl (by decide) ?_
            exact sw_15 p l e s m args below meth c G A Q cI cZ cJ b0 h o ta sa ua ma L xs i j T b r sw st fa sc fi mi lf hi n sw2 st2 fa2 sc2 fi2 mi2 lf2 hi2 n2 th K ov hW hI hi0 hiL ih
          · refine z_tswI (q := 16) (tgt := 1006) hC dL_law_39 rfl (by decide) rfl (by decide) rfl (by decide) ?_
            exact sw_16 p l e s m args below meth c G A Q cI cZ cJ b0 h o ta sa ua ma L xs i j T b r sw st fa sc fi mi lf hi n sw2 st2 fa2 sc2 fi2 mi2 lf2 hi2 n2 th K ov hW hI hi0 hiL ih
          · refine z_tswI (q := 17) (tgt := 1019) hC dL_law_39 rfl (by decide) rfl (by decide) rfl (by decide) ?_
            exact sw_17 p l e s m args below meth c G A Q cI cZ cJ b0 h o ta sa ua ma L xs i j T b r sw st fa sc fi mi lf hi n sw2 st2 fa2 sc2 fi2 mi2 lf2 hi2 n2 th K ov hW hI hi0 hiL ih
          · refine z_tswI (q := 18) (tgt := 1032) hC dL_law_39 rfl (by decide) rfl (by decide) rfl (by decide) ?_
            exact sw_18 p l e s m args below meth c G A Q cI cZ cJ b0 h o ta sa ua ma L xs i j T b r sw st fa sc fi mi lf hi n sw2 st2 fa2 sc2 fi2 mi2 lf2 hi2 n2 th K ov hW hI hi0 hiL ih
          · refine z_tswI (q := 19) (tgt := 1088) hC dL_law_39 rfl (by decide) rfl (by decide) rfl (by decide) ?_
            exact sw_19 p l e s m args below meth c G A Q cI cZ cJ b0 h o ta sa ua ma L xs i j T b r sw st fa sc fi mi lf hi n sw2 st2 fa2 sc2 fi2 mi2 lf2 hi2 n2 th K ov hW hI hi0 hiL ih
          · refine z_tswI (q := 20) (tgt := 1156) hC dL_law_39 rfl (by decide) rfl (by decide) rfl (by decide) ?_
            exact sw_20 p l e s m args below meth c G A Q cI cZ cJ b0 h o ta sa ua ma L xs i j T b r sw st fa sc fi mi lf hi n sw2 st2 fa2 sc2 fi2 mi2 lf2 hi2 n2 th K ov hW hI hi0 hiL ih
          · refine z_tswI (q := 21) (tgt := 1212) hC dL_law_39 rfl (by decide) rfl (by decide) rfl (by decide) ?_
            exact sw_21 p l e s m args below meth c G A Q cI cZ cJ b0 h o ta sa ua ma L xs i j T b r sw st fa sc fi mi lf hi n sw2 st2 fa2 sc2 fi2 mi2 lf2 hi2 n2 th K ov hW hI hi0 hiL ih
          · refine z_tswI (q := 22) (tgt := 1268) hC dL_law_39 rfl (by decide) rfl (by decide) rfl (by decide) ?_
            exact sw_22 p l e s m args below meth c G A Q cI cZ cJ b0 h o ta sa ua ma L xs i j T b r sw st fa sc fi mi lf hi n sw2 st2 fa2 sc2 fi2 mi2 lf2 hi2 n2 th K ov hW hI hi0 hiL ih
          · refine z_tswI (q := 23) (tgt := 1281) hC dL_law_39 rfl (by decide) rfl (by decide) rfl (by decide) ?_
            exact sw_23 p l e s m args below meth c G A Q cI cZ cJ b0 h o ta sa ua ma L xs i j T b r sw st fa sc fi mi lf hi n sw2 st2 fa2 sc2 fi2 mi2 lf2 hi2 n2 th K ov hW hI hi0 hiL ih
          · refine z_tswI (q := 24) (tgt := 1337) hC dL_law_39 rfl (by decide) rfl (by decide) rfl (by decide) ?_
            exact sw_24 p l e s m args below meth c G A Q cI cZ cJ b0 h o ta sa ua ma L xs i j T b r sw st fa sc fi mi lf hi n sw2 st2 fa2 sc2 fi2 mi2 lf2 hi2 n2 th K ov hW hI hi0 hiL ih
          · refine z_tswI (q := 25) (tgt := 1393) hC dL_law_39 rfl (by decide) rfl (by decide) rfl (by decide) ?_
            exact sw_25 p l e s m args below meth c G A Q cI cZ cJ b0 h o ta sa ua ma L xs i j T b r sw st fa sc fi mi lf hi n sw2 st2 fa2 sc2 fi2 mi2 lf2 hi2 n2 th K ov hW hI hi0 hiL ih
          · refine z_tswI (q := 26) (tgt := 1434) hC dL_law_39 rfl (by decide) rfl (by decide) rfl (by decide) ?_
            exact sw_26 p l e s m args below meth c G A Q cI cZ cJ b0 h o ta sa ua ma L xs i j T b r sw st fa sc fi mi lf hi n sw2 st2 fa2 sc2 fi2 mi2 lf2 hi2 n2 th K ov hW hI hi0 hiL ih
        unfold LZ
        refine z_iload (n := 25) hC dL_law_23 4 rfl rfl ?_
        refine z_aload_n (n := 26) hC dL_law_25 rfl 0 rfl rfl ?_
        refine z_slen (n := 27) hC hX hb0 hbA dL_law_26 rfl ?_
        refine z_iconst (v := nI 4) (n := 28) hC dL_law_27 (by decide) rfl ?_
        refine z_isub (v := nI L - nI 4) (n := 29) hC dL_law_28 rfl rfl ?_
        refine z_icmp_gt (tgt := 1454) (n := 32) hC dL_law_29 (by decide) rfl (fun h9 => absurd h9 hlen) (fun _ => ?_)
        refine z_aload_n (n := 33) hC dL_law_32 rfl 0 rfl rfl ?_
        refine z_iload (n := 35) hC dL_law_33 4 rfl rfl ?_
        refine z_sld (v := xs i) (n := 36) hC hX hb0 hbA hL i rfl (by omega) rfl dL_law_35 rfl ?_
        refine z_bipush (v := nI 31) (n := 38) hC dL_law_36 (by decide) rfl ?_
        refine z_iand (v := nI k) (n := 39) hC dL_law_38 hx rfl ?_
        exact hsw
      · have hlen : (nI L - nI 4) < nI i := by
          rw [Int32.lt_iff_toInt_lt, pk_sub_toInt (by omega) (by decide), nI_toInt (by omega)]
          omega
        unfold LZ
        refine z_iload (n := 25) hC dL_law_23 4 rfl rfl ?_
        refine z_aload_n (n := 26) hC dL_law_25 rfl 0 rfl rfl ?_
        refine z_slen (n := 27) hC hX hb0 hbA dL_law_26 rfl ?_
        refine z_iconst (v := nI 4) (n := 28) hC dL_law_27 (by decide) rfl ?_
        refine z_isub (v := nI L - nI 4) (n := 29) hC dL_law_28 rfl rfl ?_
        refine z_icmp_gt (tgt := 1454) (n := 32) hC dL_law_29 (by decide) rfl (fun _ => ?_) (fun h9 => absurd hlen h9)
        exact hend _ _ _ _ (by omega) (by omega)
  exact fun j hj => key (513 - j) j rfl hj
theorem iv_0 : iv 0 0 0 z0 sp0 z0 z0 z0 := by
  refine ⟨by decide, by decide, fun g hg => absurd hg (Nat.not_lt_zero g), fun g => ?_, fun g => ?_, fun k hk => ?_, ?_⟩
  · show inN (nI 0) (100 * 0)
    unfold inN
    decide +kernel
  · show inN (nI 0) (50 * 0)
    unfold inN
    decide +kernel
  · show -45 ≤ (nI 0).toInt ∧ (nI 0).toInt ≤ 45
    decide +kernel
  · unfold inN
    decide +kernel
set_option maxRecDepth 100000 in
set_option maxHeartbeats 4000000 in
/-- the law's beginning: the class's object, the model, the array -/
theorem law_begin (p : Program) (l : Launch) (e : Env) (s : State) (m : MethodId) (args : Array Value) (below : List Frame) (meth : Method) (c : Code) (G : va_G) (A : Nat → Prop) (Q : State → Prop) (cI cZ cJ : ClassId) (b0 : Nat) (L : Nat) (xs : Nat → Int32) (hW : LX p l s m args c G A cI cZ cJ b0 L xs) (hgo : ∀ (h o : Nat) (ta sa ua ma : Nat → Nat), LPj p l e s m args below meth c G A Q cI cZ cJ b0 h o ta sa ua ma 0) : ZZ p l e room_1 s m args below meth c G A 9 0 0 Q [] [(0, .ref b0)] 0 [] := by
  obtain ⟨hC, hl, hz, hX, hb0, hbA, hL⟩ := id hW
  refine z_new (n := 3) (ws2 := fun q1 => [(q1, .inr (2, [.null, .null, .null, .int (nI 0)]))]) hC inX2 tyX2 tyX2_ok rfl q615 q616 q57 [.null, .null, .null, .int (nI 0)] (fun j hj => by rcases (show j = 0 ∨ j = 1 ∨ j = 2 ∨ j = 3 by omega) with rfl | rfl | rfl | rfl <;> rfl) (Nat.le_of_ble_eq_true rfl) (Nat.le_of_ble_eq_true rfl) dL_law_0 (fun _ => rfl) rfl (fun q1 => ?_)
  refine z_dup (n := 4) hC dL_law_3 rfl rfl ?_
  refine z_callc (S := (Nat → Nat) × (Nat → Nat) × (Nat → Nat)) (n := 7) hC (fun u => [(q1, .inr (2, [.ref (u.1 0), .ref (u.2.1 0), .ref (u.2.2 0), .int (nI 0)]))]) (fun u => (wT u.1 cI z0 sp0) ++ (wS u.2.1 cI cZ z0 z0 z0 z0 z0 z0 lf0 lf0 0) ++ (wS u.2.2 cI cZ z0 z0 z0 z0 z0 z0 lf0 lf0 0)) (k_X2_init l G cI cZ cJ q1) kg_L_79 q55 q56 q57 rfl kd_yX2_init dL_law_4 ⟨(Nat.le_of_ble_eq_true rfl), (Nat.le_of_ble_eq_true rfl)⟩ [0] rfl (by decide) (Nat.le_of_ble_eq_true rfl) ⟨(Nat.le_of_ble_eq_true rfl), (Nat.le_of_ble_eq_true rfl)⟩ (fun u => [(q1, .inr (2, [.ref (u.1 0), .ref (u.2.1 0), .ref (u.2.2 0), .int (nI 0)]))]) [] (fun _ => rfl) [] (fun _ => rfl) rfl (fun _ => rfl) (fun _ _ => rfl) (fun u => (wH q1 u.1 u.2.1 u.2.2 0) ++ (wT u.1 cI z0 sp0) ++ (wS u.2.1 cI cZ z0 z0 z0 z0 z0 z0 lf0 lf0 0) ++ (wS u.2.2 cI cZ z0 z0 z0 z0 z0 z0 lf0 lf0 0)) (fun _ _ => rfl) rfl (fun u hu => ?_)
  clear hu
  obtain ⟨ta, sa, ua⟩ := u
  refine z_weq (ws' := (wH q1 ta sa ua 0) ++ (wT ta cI z0 sp0) ++ (wS sa cI cZ z0 z0 z0 z0 z0 z0 lf0 lf0 0) ++ (wS ua cI cZ z0 z0 z0 z0 z0 z0 lf0 lf0 0)) rfl ?_
  refine z_astore_n (lv' := [(1, .ref q1), (0, .ref b0)]) (n := 8) hC dL_law_7 rfl (by decide) rfl rfl ?_
  refine z_new (n := 11) (ws2 := fun q2 => (wH q1 ta sa ua 0) ++ (wT ta cI z0 sp0) ++ (wS sa cI cZ z0 z0 z0 z0 z0 z0 lf0 lf0 0) ++ (wS ua cI cZ z0 z0 z0 z0 z0 z0 lf0 lf0 0) ++ [(q2, .inr (3, [.int (nI 0), .int (nI 0), .null, .null, .null, .null, .null, .null]))]) hC inX3 tyX3 tyX3_ok rfl q634 q635 q385 [.int (nI 0), .int (nI 0), .null, .null, .null, .null, .null, .null] (fun j hj => by rcases (show j = 0 ∨ j = 1 ∨ j = 2 ∨ j = 3 ∨ j = 4 ∨ j = 5 ∨ j = 6 ∨ j = 7 by omega) with rfl | rfl | rfl | rfl | rfl | rfl | rfl | rfl <;> rfl) (Nat.le_of_ble_eq_true rfl) (Nat.le_of_ble_eq_true rfl) dL_law_8 (fun _ => rfl) rfl (fun q2 => ?_)
  refine z_dup (n := 12) hC dL_law_11 rfl rfl ?_
  refine z_callc (S := Nat → Nat) (n := 15) hC (fun u => [(u 0, .inr (3, [.int (nI 0), .int (nI 0), .ref (u 1), .ref (u 2), .ref (u 3), .ref (u 4), .ref (u 5), .ref (u 6)]))]) (fun u => [(u 1, .inl (cI, 6, .inl z0)), (u 2, .inl (cI, 6, .inl z0)), (u 3, .inl (cI, 5, .inl z0)), (u 4, .inl (cI, 5, .inl sp0)), (u 5, .inl (cI, 25, .inl (nowF 0 z0 z0 z0 z0))), (u 6, .inl (cI, 25, .inl z0))]) (k_X3_init l G cI cZ cJ q2) kg_L_82 q383 q384 q385 rfl kd_yX3_init dL_law_12 ⟨(Nat.le_of_ble_eq_true rfl), (Nat.le_of_ble_eq_true rfl)⟩ [22] rfl (by decide) (Nat.le_of_ble_eq_true rfl) ⟨(Nat.le_of_ble_eq_true rfl), (Nat.le_of_ble_eq_true rfl)⟩ (fun u => (wH q1 ta sa ua 0) ++ (wT ta cI z0 sp0) ++ (wS sa cI cZ z0 z0 z0 z0 z0 z0 lf0 lf0 0) ++ (wS ua cI cZ z0 z0 z0 z0 z0 z0 lf0 lf0 0) ++ [(u 0, .inr (3, [.int (nI 0), .int (nI 0), .ref (u 1), .ref (u 2), .ref (u 3), .ref (u 4), .ref (u 5), .ref (u 6)]))]) [0, 1, 2, 3, 4, 5, 6, 7, 8, 9, 10, 11, 12, 13, 14, 15, 16, 17, 18, 19, 20, 21] (fun _ => rfl) ((wH q1 ta sa ua 0) ++ (wT ta cI z0 sp0) ++ (wS sa cI cZ z0 z0 z0 z0 z0 z0 lf0 lf0 0) ++ (wS ua cI cZ z0 z0 z0 z0 z0 z0 lf0 lf0 0)) (fun _ => rfl) rfl (cv_of 23 (by decide +kernel) (fun _ => rfl)) (fun u hu => by have hu : u 0 = q2 := hu; subst hu; rfl) (fun u => (wH q1 ta sa ua 0) ++ (wT ta cI z0 sp0) ++ (wS sa cI cZ z0 z0 z0 z0 z0 z0 lf0 lf0 0) ++ (wS ua cI cZ z0 z0 z0 z0 z0 z0 lf0 lf0 0) ++ (wN u cI (nI 0) 0 z0 z0 z0 sp0 0 z0 z0 z0 z0 z0)) (fun _ _ => rfl) rfl (fun ma hma => ?_)
  have hma : ma 0 = q2 := hma
  subst hma
  refine z_astore_n (lv' := [(2, .ref (ma 0)), (1, .ref q1), (0, .ref b0)]) (n := 16) hC dL_law_15 rfl (by decide) rfl rfl ?_
  refine z_iconst (v := nI 1) (n := 17) hC dL_law_16 (by decide) rfl ?_
  refine z_newaJ (n := 19) (ws2 := fun o => (wH q1 ta sa ua 0) ++ (wT ta cI z0 sp0) ++ (wS sa cI cZ z0 z0 z0 z0 z0 z0 lf0 lf0 0) ++ (wS ua cI cZ z0 z0 z0 z0 z0 z0 lf0 lf0 0) ++ (wN ma cI (nI 0) 0 z0 z0 z0 sp0 0 z0 z0 z0 z0 z0) ++ (wO o cJ (fun _ => 0))) hC 2 1 rfl q636 rfl (by decide) (Nat.le_of_ble_eq_true rfl) (Nat.le_of_ble_eq_true rfl) dL_law_17 (fun _ => rfl) rfl (fun o => ?_)
  refine z_astore_n (lv' := [(3, .ref o), (2, .ref (ma 0)), (1, .ref q1), (0, .ref b0)]) (n := 20) hC dL_law_19 rfl (by decide) rfl rfl ?_
  refine z_iconst (v := nI 0) (n := 21) hC dL_law_20 (by decide) rfl ?_
  refine z_istore (lv' := [(4, .int (nI 0)), (3, .ref o), (2, .ref (ma 0)), (1, .ref q1), (0, .ref b0)]) (n := 23) hC dL_law_21 (by decide) rfl rfl ?_
  refine z_lv [4, 3, 2, 1, 0] (lv' := [(0, .ref b0), (1, .ref q1), (2, .ref (ma 0)), (3, .ref o), (4, .int (nI 0))]) rfl ?_
  refine z_wid (k1 := 30 + 7 * 0) (k2 := 211 + 66 * 0) (Nat.le_of_ble_eq_true rfl) (Nat.le_of_ble_eq_true rfl) ?_
  exact hgo q1 o ta sa ua ma 0 0 z0 sp0 z0 z0 z0 z0 z0 z0 lf0 lf0 0 z0 z0 z0 z0 z0 z0 lf0 lf0 0 (nI 0) z0 (fun _ => 0) rfl iv_0
