theorem vx_toV {S : Type} {post : S → Prop} {B : S → State → Prop} {A1 : Nat → Prop} {p : Program} {l : Launch} {e : Env} {R : Room} {s : State} {m : MethodId} {args a : Array Value} {below : List Frame} {meth : Method} {c : Code} {H : Heap} {locs : List Loc} {cells slots mc ms : Nat} {g : JFrame} {rest : List Value} {XC : String → State → State → Prop} {free : Addr → Prop} (h : vx_Run p l e R s m args below meth c H locs cells slots mc ms g rest (fun _ _ _ => False) XC free) : vx_Run p l e R s m args below meth c H locs cells slots mc ms g rest (va_Qv post B A1 a) XC free := by
  intro T hT X
  rcases h T hT X with ⟨v, st₀, t, T', L, h0, X', hL, e1, e2, hF, st⟩ | h
  · exact hF.elim
  · exact Or.inr h
theorem y_callvxc {p : Program} {l : Launch} {e : Env} {R : Room} {s : State} {m : MethodId} {args : Array Value} {below : List Frame} {meth : Method} {c : Code} {cc : ByteArray} {nL : Nat} {own : String} {G : va_G} {tys : List (ClassId × FieldType)} {A : Nat → Prop} {cells slots : Nat} {Q : State → Prop} {ws : va_W} {lv : List (Nat × Value)} {pc n : Nat} {rest : List Value} (hC : Cx p s m args c cc nL own G tys A) {y : MethodName} {cy : ByteArray} {nl fr lo : Nat} {ret : Option FieldType} {a : Nat} {As : List Value} {W0 : va_W} {E : String} {index k9 : Nat} {C : String} (hM : MX l y cy nl fr lo ret G tys (.ref a :: As) W0 E 1 6) (hg : GoodIn zAW (wsV own index C y (.code y cy nl ret :: zAW))) (hd : y.cls = C ∧ y.cls ≠ "java/lang/invoke/MethodHandle" ∧ y.cls ≠ "java/lang/invoke/VarHandle" ∧ (parseMethodDescriptor y.desc).map (fun d => d.parameters.length) = some k9) (hdg : decode cc pc = .ok (.invokevirtual index, 3)) (hR : fr + 1 ≤ R.frames ∧ 8 + (nl + 11) + lo ≤ R.locals) (q0 : Nat) {ci : Nat} {fs : List Value} {qc : vw_C} (hcl : vwCl[ci]? = some qc) (hqc : qc.1 = C) (he : W0[q0]? = some (a, .inr (ci, fs))) (WF : va_W) (hp : ws.Perm (W0 ++ WF)) (hnA : As.length = k9) (hcat : (rest.map fun v => v.category).sum ≤ 8) (hf : cells + 1 ≤ R.cells ∧ slots + 6 ≤ R.slots) {st : List Value} (hst : As.reverse ++ .ref a :: rest = st) (pre : List ExceptionTableEntry) (x : ExceptionTableEntry) (suf : List ExceptionTableEntry) (hsplit : c.exceptionTable.toList = pre ++ x :: suf) (hpass : ∀ z ∈ pre, z.catchType ≠ 0 ∧ ∃ nm : String, Cond.classLink own z.catchType nm ∈ zAW ∧ va_Nc E nm s) (hx : covers x pc = true) (h0 : x.catchType ≠ 0) (hlink : Cond.classLink own x.catchType E ∈ zAW) (hcast : E ∈ zCW) (hn : x.handlerPc = n)
    (k : ∀ q : Nat, ZZ p l e R s m args below meth c G A nL (cells + 1) (slots + 6) Q ws lv n [.ref q]) : ZZ p l e R s m args below meth c G A nL cells slots Q ws lv pc st := by
  subst hst; subst hn
  intro H locs ls hP hD hS hl
  have hP9 := wP_perm hP hp
  have hD9 := wD_perm hD hp
  have hPc := wP_left hP9
  have hDc := wD_left hD9
  have hK := hC.2.2.2.2.2.1
  have hFc := wfree hD9 hS hC.2.2.2.2.2.2.1
  subst hqc
  refine vx_callv (S := Unit) (post := fun _ => False) (B := fun _ _ => True) (A1 := va_A W0 H.size) (a := #[]) (vx_toV (vx_runV (C := qc.1) (As := As) (rest := rest) (Ts := zAW) ⟨hC.1, hC.2.1, hC.2.2.1, hC.2.2.2.1, hC.2.2.2.2.1⟩ (hM H.size) (cwV k9 hC.2.2.2.2.1 hg rfl rfl rfl hd hR) ⟨fun a' U g mk q => ⟨q.1, cW_moved q.2⟩, va_recv hK hPc hcl he, fun U hU hW => ⟨rfl, by rw [hU], by rw [hU]; exact hPc, va_K.moved hW.alike hK, hDc.weaken (fun _ _ _ _ => trivial), zN_warm hW hC.2.2.2.2.2.2.2.1, zT_to hW hU hS hFc hC.2.2.2.2.2.2.2.2⟩⟩ rfl hnA hl.1 rfl (lv_room hcat) hdg hf)) hS (fun q _ h => hFc q h) hFc (fun q _ h => hFc q h) (fun E' ce q9 u t H1 locs1 ht hvm _ hB hz hk1 hS1 hce hcv9 hcl9 => ?_) (fun u t H1 locs1 ht hvm hp hB hz hk hS1 => hp.elim)
  obtain ⟨rfl, hB⟩ := hB
  obtain ⟨hP2, hD2⟩ := wpj hP9 hD9 hk1 hFc (ht ▸ hB.1) hB.2.2
  exact vx_catch hC.2.2.2.1 pre x suf hsplit (fun z hz9 => Or.inr ⟨(hpass z hz9).1, (hpass z hz9).2.choose, hC.2.2.2.2.1 _ (hpass z hz9).2.choose_spec.1, (hpass z hz9).2.choose_spec.2⟩) hx h0 (hC.2.2.2.2.1 _ hlink) (va_tabs rfl rfl (hC.2.2.2.2.2.2.2.1.2.1 _ hcast)) hce hcv9 hcl9 (k q9 H1 locs1 ls (wP_perm hP2 hp.symm) (wD_perm hD2 hp.symm) hS1 hl)
section ZL
variable {p : Program} {l : Launch} {e : Env} {R : Room} {s : State} {m : MethodId} {args : Array Value} {below : List Frame} {meth : Method} {c : Code} {cc : ByteArray} {nL : Nat} {own : String} {G : va_G} {tys : List (ClassId × FieldType)} {A : Nat → Prop} {cells slots : Nat} {Q : State → Prop}
variable {ws : va_W} {lv : List (Nat × Value)} {pc n : Nat} {rest : List Value}
theorem z_tswI (hC : Cx p s m args c cc nL own G tys A) {dflt lo hi : Int} {offs : Array Int} {len q tgt : Nat} {x : Int32} {off : Int} (hdg : decode cc pc = .ok (.tableswitch dflt lo hi offs, len)) (hx : x = nI q) (hq : q < 2 ^ 31) (h1 : lo = 0) (h2 : (q : Int) ≤ hi) (ho : offs[q]? = some off) (ht : (pc : Int) + off = (tgt : Int)) (k : ZZ p l e R s m args below meth c G A nL cells slots Q ws lv tgt rest) : ZZ p l e R s m args below meth c G A nL cells slots Q ws lv pc (.int x :: rest) := by
  subst hx; subst h1
  intro H locs ls hP hD hS hl
  have e1 := nI_toInt hq
  exact lv_tableIn hC.1 hC.2.1 hdg (by rw [e1]; omega) (by rw [e1]; omega) (by rw [e1]; simpa using ho) ht (k H locs ls hP hD hS hl)
theorem z_tswO (hC : Cx p s m args c cc nL own G tys A) {dflt lo hi : Int} {offs : Array Int} {len q tgt : Nat} {x : Int32} (hdg : decode cc pc = .ok (.tableswitch dflt lo hi offs, len)) (hx : x = nI q) (hq : q < 2 ^ 31) (h2 : hi < (q : Int)) (ht : (pc : Int) + dflt = (tgt : Int)) (k : ZZ p l e R s m args below meth c G A nL cells slots Q ws lv tgt rest) : ZZ p l e R s m args below meth c G A nL cells slots Q ws lv pc (.int x :: rest) := by
  subst hx
  intro H locs ls hP hD hS hl
  have e1 := nI_toInt hq
  exact lv_tableOut hC.1 hC.2.1 hdg (Or.inr (by rw [e1]; exact h2)) ht (k H locs ls hP hD hS hl)
theorem z_tsw2 (hC : Cx p s m args c cc nL own G tys A) {dflt lo hi : Int} {offs : Array Int} {len x9 tgt : Nat} (q q2 : Nat) {x : Int32} {off off2 : Int} (hdg : decode cc pc = .ok (.tableswitch dflt lo hi offs, len)) (hx : x = nI x9) (hk : x9 = q ∨ x9 = q2) (hq : q < 2 ^ 31) (hq2 : q2 < 2 ^ 31) (h1 : lo = 0) (h2 : (q : Int) ≤ hi) (h22 : (q2 : Int) ≤ hi) (ho : offs[q]? = some off) (ho2 : offs[q2]? = some off2) (ht : (pc : Int) + off = (tgt : Int)) (ht2 : (pc : Int) + off2 = (tgt : Int)) (k : ZZ p l e R s m args below meth c G A nL cells slots Q ws lv tgt rest) : ZZ p l e R s m args below meth c G A nL cells slots Q ws lv pc (.int x :: rest) := by
  rcases hk with rfl | rfl
  · exact z_tswI hC hdg hx hq h1 h2 ho ht k
  · exact z_tswI hC hdg hx hq2 h1 h22 ho2 ht2 k
end ZL
