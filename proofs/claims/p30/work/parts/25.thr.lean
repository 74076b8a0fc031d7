/-! the words that `throw new X("text")` needs: of the tables, good ones or kept by zN -/
theorem thr_hat {p : Program} {s : State} {m : MethodId} {args : Array Value} {c : Code} {cc : ByteArray} {nL : Nat} {own : String} {G : va_G} {tys : List (ClassId × FieldType)} {A : Nat → Prop} (hC : Cx p s m args c cc nL own G tys A) {o X : String} {ic : Nat} {names : List String} (ks : List Nat) (h1 : vx_atS o ic X names = ks.filterMap (fun k => tables_1[k]?)) (h2 : (vx_atS o ic X names).all (fun w => goodWord w || decide (w = .castable X X) || zDW.any (fun x => decide (w = .declares x))) = true) (hX : X ∈ zCW) : ∀ w ∈ vx_atS o ic X names, w.before args s = true := by
  intro w hw
  have hg := List.all_eq_true.mp h2 w hw
  have hm : w ∈ tables_1 := by
    rw [h1] at hw
    obtain ⟨k, -, hk⟩ := List.mem_filterMap.mp hw
    exact List.mem_of_getElem? hk
  simp only [Bool.or_eq_true, decide_eq_true_eq, List.any_eq_true] at hg
  rcases hg with (hg | hg) | ⟨x, hx, hg⟩
  · exact hC.2.2.2.2.1 w (zq_t hm hg)
  · subst hg
    exact va_Nw.use rfl (hC.2.2.2.2.2.2.2.1.2.1 X hX)
  · subst hg
    exact va_Nw.use rfl (hC.2.2.2.2.2.2.2.1.2.2.1 x hx)

theorem thr_s1 : vx_atS RX2 43 "java/lang/IllegalStateException" ["java/lang/RuntimeException", "java/lang/Exception"] = [5, 119, 128, 132, 135, 137, 120, 121, 18, 19, 122, 127, 133, 153, 109, 154, 111, 155, 113, 123, 125, 115, 149, 150, 152, 115, 523, 524, 525, 143, 101, 143, 144, 145, 146, 103, 146, 147, 148, 149, 105, 522, 513, 514, 515, 130, 516, 517, 518, 519, 118, 117, 520].filterMap (fun k => tables_1[k]?) := by decide +kernel

theorem thr_s2 : (vx_atS RX2 43 "java/lang/IllegalStateException" ["java/lang/RuntimeException", "java/lang/Exception"]).all (fun w => goodWord w || decide (w = .castable "java/lang/IllegalStateException" "java/lang/IllegalStateException") || zDW.any (fun x => decide (w = .declares x))) = true := by decide +kernel

theorem thr_s3 : (Cond.classLink RX2 39 "java/lang/IllegalStateException" :: Cond.initialized "java/lang/IllegalStateException" :: vx_atS RX2 43 "java/lang/IllegalStateException" ["java/lang/RuntimeException", "java/lang/Exception"]).all vx_ot = true := by decide +kernel

set_option maxRecDepth 20000 in
theorem z_thr_s {p : Program} {l : Launch} {e : Env} {R : Room} {s : State} {m : MethodId} {args : Array Value} {below : List Frame} {meth : Method} {c : Code} {cc : ByteArray} {nL : Nat} {G : va_G} {tys : List (ClassId × FieldType)} {A : Nat → Prop} {ws : va_W} {lv : List (Nat × Value)} {pc : Nat} {mc ms : Nat} {Qc : Array Value → State → Outcome → State → Prop} (si : Nat) (text : String)
    (hC : Cx p s m args c cc nL RX2 G tys A) (hno : ∀ x ∈ c.exceptionTable.toList, False) (hlocks : meth.locks = false) (hl : l.stackTraces = false) (hq : (si, text) ∈ zSW)
    (d0 : decode cc pc = .ok (.new 39, 3)) (d3 : decode cc (pc + 3) = .ok (.dup, 1)) (d4 : decode cc (pc + 4) = .ok (.ldc si, 2)) (d6 : decode cc (pc + 6) = .ok (.invokespecial 43, 3)) (d9 : decode cc (pc + 9) = .ok (.athrow, 1))
    (hfr : 6 ≤ R.frames) (hlo : 82 ≤ R.locals) (hRc : 1 ≤ R.cells) (hRs : 6 ≤ R.slots) (hmc : 1 ≤ mc) (hms : 6 ≤ ms) :
    ZZ p l e R s m args below meth c G A nL 0 0 (vx_MQ below Qc (vx_X (S := Unit) (fun _ => True) (fun E' _ t => E' = "java/lang/IllegalStateException" ∧ cE G tys A ws t) A) args s mc ms A) ws lv pc [] := by
  obtain ⟨sa, hstr⟩ := hC.2.2.2.2.2.2.2.1.2.2.2.1 (si, text) hq
  exact z_throw (names := ["java/lang/RuntimeException", "java/lang/Exception"]) (ic := 43) hC hno hlocks hl (by decide +kernel) (by decide +kernel) (hC.2.2.2.2.1 _ (zq_t (List.mem_append_right _ (List.mem_append_right _ (List.mem_of_getElem? (l := tables_1_3) (i := 32) rfl))))) (hC.2.2.2.2.1 _ (zq_t (List.mem_append_left _ (List.mem_of_getElem? (l := tables_1_1) (i := 9) rfl)))) hstr (thr_hat hC _ thr_s1 thr_s2 (by simp [zCW])) (fun w hw => List.all_eq_true.mp thr_s3 w hw) d0 d3 d4 d6 d9 (by show 2 + 3 < _; omega) (by show 13 * 3 + 43 ≤ _; omega) hRc hRs hmc hms
