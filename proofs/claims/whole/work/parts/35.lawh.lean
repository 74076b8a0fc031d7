/-! the law's helpers: methods with a table of handlers, their calls, catching -/
def zC (U : State) : Prop := va_Nc "java/lang/IllegalStateException" "java/lang/IllegalArgumentException" U ∧ va_Nc "java/lang/IllegalArgumentException" "java/lang/IndexOutOfBoundsException" U
theorem zC_to {u U : State} (hv : u.vm.Alike U.vm) (h : zC u) : zC U := ⟨va_Nc.moved hv h.1, va_Nc.moved hv h.2⟩
def MIH (S : Type) (l : Launch) (y : MethodName) (cy : ByteArray) (nl fr lo : Nat) (hh : List (Nat × Nat × Nat × Nat)) (G : va_G) (tys : List (ClassId × FieldType)) (av : List Value) (W0 : va_W) (post : Int32 → S → Prop) (W1 : S → va_W) (mc ms : Nat) : Prop :=
  ∀ sz : Nat, Met l y (.codeWith y cy nl (some .int) hh :: zAW) { frames := fr, cells := mc, slots := ms, locals := lo } (va_Pc av (fun U => cW G tys sz W0 U ∧ zC U)) (va_Qi post (fun u => cE G tys (va_A W0 sz) (W1 u)) (va_A W0 sz)) mc ms (va_A W0 sz)
theorem Met_ofWH {l : Launch} {y : MethodName} {ws ws' : List Cond} {rm : Room} {Pc : Array Value → State → Prop} {Qc : Array Value → State → Outcome → State → Prop} {mc ms : Nat} {free : Addr → Prop} {cc : ByteArray} {maxL : Nat} {ret : Option FieldType} {hh : List (Nat × Nat × Nat × Nat)} (hy : plainName y.cls = true) (hw : ws = Cond.codeWith y cc maxL ret hh :: ws')
    (body : ∀ p e s m args below meth c s₁, BodyLoose p l y (headSpec ws rm) cc maxL ret e s m args below meth c s₁ → c.maxLocals = maxL → Pc args s →
      W p l e (headSpec ws rm).room s m args below meth c s.heap [] 0 0 (MQ below Qc args s mc ms free) (entryFrame m args maxL)) : Met l y ws rm Pc Qc mc ms free := by
  refine MetFree.of_bodyS (code := cc) (maxLocals := maxL) (ret := ret) hy ?_ ?_
  · intro args s m h hn
    obtain ⟨m9, meth, c, hn9, h1, h2, h3, h4, -, h5, h6, -⟩ := Cond.codeWith_spec (atoms_spec (ws := ws) h _ (by rw [hw]; exact List.mem_cons_self))
    cases hn.symm.trans hn9
    exact ⟨meth, c, h1, h2, h3, h4, h5, h6⟩
  · intro p e s m args below meth c s₁ B hml hP _
    have hh0 : s₁.heap = s.heap := by rw [B.state]; rfl
    obtain ⟨t, a1, o, b1, b2, b3⟩ := body p e s m args below meth c s₁ B hml hP s₁ hh0 (Stand.of_body B)
    exact ⟨t, o, a1, b1, b2, ⟨b3.1, b3.2⟩⟩
theorem MIH_of {S : Type} {l : Launch} {y : MethodName} {cy : ByteArray} {nl fr lo : Nat} {hh : List (Nat × Nat × Nat × Nat)} {G : va_G} {tys : List (ClassId × FieldType)} {av : List Value} {W0 : va_W} {post : Int32 → S → Prop} {W1 : S → va_W} {mc ms : Nat} (hy : plainName y.cls = true) (hnl : (lg_sl av).length ≤ nl) (lv : List (Nat × Value)) (hlv : lv_args 0 av = lv)
    (body : ∀ (p : Program) (e : Env) (s : State) (m : MethodId) (below : List Frame) (meth : Method) (c : Code), Cx p s m av.toArray c cy nl y.cls G tys (va_A W0 s.heap.size) → meth.sig.returnType = some .int → meth.locks = false → zC s → c.exceptionTable.toList = tableOf hh →
      ZZ p l e { frames := fr, cells := mc, slots := ms, locals := lo } s m av.toArray below meth c G (va_A W0 s.heap.size) nl 0 0 (MQ below (va_Qi post (fun u => cE G tys (va_A W0 s.heap.size) (W1 u)) (va_A W0 s.heap.size)) av.toArray s mc ms (va_A W0 s.heap.size)) W0 lv 0 []) : MIH S l y cy nl fr lo hh G tys av W0 post W1 mc ms := by
  intro sz
  refine Met_ofWH (cc := cy) (maxL := nl) (ret := some .int) (hh := hh) hy rfl ?_
  intro p e s m args below meth c s₁ B hml hv
  obtain ⟨rfl, ⟨hsz, hP, hK, hD0, hN0, hT0⟩, hz⟩ := hv
  subst hsz
  have hts := atoms_spec (ws := Cond.codeWith y cy nl (some .int) hh :: zAW) B.pre
  have htab := vx_table (x := y) B (hts _ List.mem_cons_self)
  have hl := lv_entry av (n := nl) hnl
  rw [lg_entry_eq]
  exact body p e s m below meth c ⟨B.exec, B.bytes, hml, findClass_of_methodNamed B.named, fun w h => hts w (List.mem_cons_of_mem _ h), hK, fun q h => Or.inr h, hN0, hT0⟩ B.returns B.notSynchronized hz htab s.heap [] _ hP hD0.self va_S.rf (hlv ▸ hl)
theorem z_callsiH {p : Program} {l : Launch} {e : Env} {R : Room} {s : State} {m : MethodId} {args : Array Value} {below : List Frame} {meth : Method} {c : Code} {cc : ByteArray} {nL : Nat} {own : String} {G : va_G} {tys : List (ClassId × FieldType)} {A : Nat → Prop} {cells slots : Nat} {Q : State → Prop} {ws : va_W} {lv : List (Nat × Value)} {pc n : Nat} {rest : List Value} (hC : Cx p s m args c cc nL own G tys A) {S : Type} {y : MethodName} {cy : ByteArray} {nl fr lo : Nat} {As : List Value} {W0 : va_W} {post : Int32 → S → Prop} {W1 : S → va_W} {mc ms index k9 : Nat} {hh : List (Nat × Nat × Nat × Nat)} (hz : zC s) (hM : MIH S l y cy nl fr lo hh G tys As W0 post W1 mc ms) (hg : GoodIn zAW (va_wsS own index y (.codeWith y cy nl (some .int) hh :: zAW))) (hd : y.cls ≠ "java/lang/invoke/MethodHandle" ∧ y.cls ≠ "java/lang/invoke/VarHandle" ∧ (parseMethodDescriptor y.desc).map (fun d => d.parameters.length) = some k9) (hdg : decode cc pc = .ok (.invokestatic index, 3)) (hR : fr + 1 ≤ R.frames ∧ 8 + (nl + 11) + lo ≤ R.locals) (is : List Nat) (hCw : is.map (fun i => ws[i]?) = W0.map some) (hnd : va_nd is = true) (hnA : As.length = k9) (hcat : (rest.map fun v => v.category).sum ≤ 8) (hf : cells + mc ≤ R.cells ∧ slots + ms ≤ R.slots) {ws2 : S → va_W} (js : List Nat) (hAw : ∀ u, is.map (fun i => (ws2 u)[i]?) = (W1 u).map some) (WR : va_W) (hBw : ∀ u, js.map (fun i => (ws2 u)[i]?) = WR.map some) (hBo : js.map (fun i => ws[i]?) = WR.map some) (hcv : ∀ u, (List.range (ws2 u).length).all (fun k => is.contains k || js.contains k) = true) (ads : List Nat) (hadr : ∀ u, (W1 u).map Prod.fst = ads) (hadr0 : W0.map Prod.fst = ads) (hn : pc + 3 = n) {st0 : List Value} (hst : As.reverse ++ rest = st0) (kk : ∀ (r : Int32) (u : S), post r u → ZZ p l e R s m args below meth c G A nL (cells + mc) (slots + ms) Q (ws2 u) lv n (.int r :: rest)) : ZZ p l e R s m args below meth c G A nL cells slots Q ws lv pc st0 := by
  subst hn; subst hst
  intro H locs ls hP hD hS hl
  have hPc := wmap_P hP hCw
  have hDc := hD.sub is hnd hCw
  have hK := hC.2.2.2.2.2.1
  have hFc := va_free (wc := W0) hD hS hC.2.2.2.2.2.2.1 is hCw
  refine va_calli (vx_runSW (As := As) (rest := rest) (Ts := zAW) ⟨hC.1, hC.2.1, hC.2.2.1, hC.2.2.2.1, hC.2.2.2.2.1⟩ (hM H.size) (vx_cwSW k9 hC.2.2.2.2.1 hg rfl rfl rfl hd hR) ⟨fun a' U g mk q => ⟨q.1, cW_moved q.2.1, zC_to (u := U) (U := U.calling g mk a') (Vm.Alike.refl U.vm) q.2.2⟩, fun U hU hW => ⟨rfl, ⟨by rw [hU], by rw [hU]; exact hPc, va_K.moved hW.alike hK, hDc.weaken (fun _ _ _ _ => trivial), zN_warm hW hC.2.2.2.2.2.2.2.1, zT_to hW hU hS hFc hC.2.2.2.2.2.2.2.2⟩, zC_to hW.alike hz⟩⟩ rfl hnA hl.1 rfl (lv_room hcat) hdg hf) hS (fun q _ h => hFc q h) hFc (fun r u t H1 locs1 ht hvm hw hB hz1 hk1 hS1 => by
    obtain ⟨hP2, hD2⟩ := wput_ok hP hD hCw ((hadr u).trans hadr0.symm) (wget_of (hAw u) ((hBw u).trans hBo.symm) (hcv u)) hk1 (ht ▸ hB.1)
    exact kk r u hw H1 locs1 ls hP2 hD2 hS1 hl)
theorem z_callvxc {p : Program} {l : Launch} {e : Env} {R : Room} {s : State} {m : MethodId} {args : Array Value} {below : List Frame} {meth : Method} {c : Code} {cc : ByteArray} {nL : Nat} {own : String} {G : va_G} {tys : List (ClassId × FieldType)} {A : Nat → Prop} {ws : va_W} {lv : List (Nat × Value)} {pc : Nat} {rest st : List Value} {cells slots n : Nat} {Q : State → Prop} (hC : Cx p s m args c cc nL own G tys A)
    {y : MethodName} {cy : ByteArray} {nl fr lo : Nat} {ret : Option FieldType} {a : Nat} {As : List Value} {W0 : va_W} {E : String} {index k9 : Nat} {C : String} (hM : MX l y cy nl fr lo ret G tys (.ref a :: As) W0 E 1 6) (hg : GoodIn zAW (wsV own index C y (.code y cy nl ret :: zAW))) (hd : y.cls = C ∧ y.cls ≠ "java/lang/invoke/MethodHandle" ∧ y.cls ≠ "java/lang/invoke/VarHandle" ∧ (parseMethodDescriptor y.desc).map (fun d => d.parameters.length) = some k9) (hdg : decode cc pc = .ok (.invokevirtual index, 3)) (hR : fr + 1 ≤ R.frames ∧ 8 + (nl + 11) + lo ≤ R.locals) (q0 : Nat) {ci : Nat} {fs : List Value} {qc : vw_C} (hcl : vwCl[ci]? = some qc) (hqc : qc.1 = C) (he : W0[q0]? = some (a, .inr (ci, fs))) (is : List Nat) (hCw : is.map (fun i => ws[i]?) = W0.map some) (hnd : va_nd is = true) (hnA : As.length = k9) (hcat : (rest.map fun v => v.category).sum ≤ 8) (hf : cells + 1 ≤ R.cells ∧ slots + 6 ≤ R.slots) (js : List Nat) (hcv : (List.range ws.length).all (fun k => is.contains k || js.contains k) = true) (hst : As.reverse ++ .ref a :: rest = st) (pre : List ExceptionTableEntry) (x : ExceptionTableEntry) (suf : List ExceptionTableEntry) (hsplit : c.exceptionTable.toList = pre ++ x :: suf) (hpass : ∀ z ∈ pre, z.catchType ≠ 0 ∧ ∃ nm : String, Cond.classLink own z.catchType nm ∈ zAW ∧ va_Nc E nm s) (hx : covers x pc = true) (h0 : x.catchType ≠ 0) (hlink : Cond.classLink own x.catchType E ∈ zAW) (hcast : E ∈ zCW) (hn : x.handlerPc = n)
    (k : ∀ q : Nat, ZZ p l e R s m args below meth c G A nL (cells + 1) (slots + 6) Q ws lv n [.ref q]) : ZZ p l e R s m args below meth c G A nL cells slots Q ws lv pc st := by
  subst hst; subst hn
  intro H locs ls hP hD hS hl
  have hPc := wmap_P hP hCw
  have hDc := hD.sub is hnd hCw
  have hK := hC.2.2.2.2.2.1
  have hFc := va_free (wc := W0) hD hS hC.2.2.2.2.2.2.1 is hCw
  subst hqc
  refine vx_callv (S := Unit) (post := fun _ => False) (B := fun _ _ => True) (A1 := va_A W0 H.size) (a := #[]) (vx_toV (vx_runV (C := qc.1) (As := As) (rest := rest) (Ts := zAW) ⟨hC.1, hC.2.1, hC.2.2.1, hC.2.2.2.1, hC.2.2.2.2.1⟩ (hM H.size) (cwV k9 hC.2.2.2.2.1 hg rfl rfl rfl hd hR) ⟨fun a' U g mk q => ⟨q.1, cW_moved q.2⟩, va_recv hK hPc hcl he, fun U hU hW => ⟨rfl, by rw [hU], by rw [hU]; exact hPc, va_K.moved hW.alike hK, hDc.weaken (fun _ _ _ _ => trivial), zN_warm hW hC.2.2.2.2.2.2.2.1, zT_to hW hU hS hFc hC.2.2.2.2.2.2.2.2⟩⟩ rfl hnA hl.1 rfl (lv_room hcat) hdg hf)) hS (fun q _ h => hFc q h) hFc (fun q _ h => hFc q h) (fun E' ce q9 u t H1 locs1 ht hvm _ hB hz hk1 hS1 hce hcv9 hcl9 => ?_) (fun u t H1 locs1 ht hvm hp hB hz hk hS1 => hp.elim)
  obtain ⟨rfl, hB⟩ := hB
  obtain ⟨hP2, hD2⟩ := wput_ok (w2 := ws) (W1 := W0) (is := is) hP hD hCw rfl (wget_of (js := js) hCw rfl hcv) hk1 (ht ▸ hB.1)
  exact vx_catch hC.2.2.2.1 pre x suf hsplit (fun z hz9 => Or.inr ⟨(hpass z hz9).1, (hpass z hz9).2.choose, hC.2.2.2.2.1 _ (hpass z hz9).2.choose_spec.1, (hpass z hz9).2.choose_spec.2⟩) hx h0 (hC.2.2.2.2.1 _ hlink) (va_tabs rfl rfl (hC.2.2.2.2.2.2.2.1.2.1 _ hcast)) hce hcv9 hcl9 (k q9 H1 locs1 ls hP2 hD2 hS1 hl)
