/-! calls of methods that throw: the exception goes through -/
theorem vx_toV {S : Type} {post : S → Prop} {B : S → State → Prop} {A1 : Nat → Prop} {p : Program} {l : Launch} {e : Env} {R : Room} {s : State} {m : MethodId} {args a : Array Value} {below : List Frame} {meth : Method} {c : Code} {H : Heap} {locs : List Loc} {cells slots mc ms : Nat} {g : JFrame} {rest : List Value} {XC : String → State → State → Prop} {free : Addr → Prop} (h : vx_Run p l e R s m args below meth c H locs cells slots mc ms g rest (fun _ _ _ => False) XC free) : vx_Run p l e R s m args below meth c H locs cells slots mc ms g rest (va_Qv post B A1 a) XC free := by
  intro T hT X
  rcases h T hT X with ⟨v, st₀, t, T', L, h0, X', hL, e1, e2, hF, st⟩ | h
  · exact hF.elim
  · exact Or.inr h
theorem z_callsx {p : Program} {l : Launch} {e : Env} {R : Room} {s : State} {m : MethodId} {args : Array Value} {below : List Frame} {meth : Method} {c : Code} {cc : ByteArray} {nL : Nat} {own : String} {G : va_G} {tys : List (ClassId × FieldType)} {A : Nat → Prop} {ws : va_W} {lv : List (Nat × Value)} {pc : Nat} {rest st : List Value} {mc ms : Nat} {Qc : Array Value → State → Outcome → State → Prop} (hC : Cx p s m args c cc nL own G tys A) (hno : ∀ x ∈ c.exceptionTable.toList, False) (hlocks : meth.locks = false)
    {y : MethodName} {cy : ByteArray} {nl fr lo : Nat} {ret : Option FieldType} {As : List Value} {E : String} {index k9 : Nat} (hM : MX l y cy nl fr lo ret G tys As [] E 1 6) (hg : GoodIn zAW (va_wsS own index y (.code y cy nl ret :: zAW))) (hd : y.cls ≠ "java/lang/invoke/MethodHandle" ∧ y.cls ≠ "java/lang/invoke/VarHandle" ∧ (parseMethodDescriptor y.desc).map (fun d => d.parameters.length) = some k9) (hdg : decode cc pc = .ok (.invokestatic index, 3)) (hR : fr + 1 ≤ R.frames ∧ 8 + (nl + 11) + lo ≤ R.locals) (hnA : As.length = k9) (hcat : (rest.map fun v => v.category).sum ≤ 8) (hf : 0 + 1 ≤ R.cells ∧ 0 + 6 ≤ R.slots) (hst : As.reverse ++ rest = st) (hmc : 1 ≤ mc) (hms : 6 ≤ ms) :
    ZZ p l e R s m args below meth c G A nL 0 0 (vx_MQ below Qc (vx_X (S := Unit) (fun _ => True) (fun E' _ t => E' = E ∧ cE G tys A ws t) A) args s mc ms A) ws lv pc st := by
  subst hst
  intro H locs ls hP hD hS hl
  have hCw : ([] : List Nat).map (fun i => ws[i]?) = ([] : va_W).map some := rfl
  have hPc := wmap_P hP hCw
  have hDc := hD.sub [] rfl hCw
  have hK := hC.2.2.2.2.2.1
  have hFc := va_free (wc := []) hD hS hC.2.2.2.2.2.2.1 [] hCw
  refine vx_callv (S := Unit) (post := fun _ => False) (B := fun _ _ => True) (A1 := va_A [] H.size) (a := #[]) (vx_toV (vx_runS (As := As) (rest := rest) (Ts := zAW) ⟨hC.1, hC.2.1, hC.2.2.1, hC.2.2.2.1, hC.2.2.2.2.1⟩ (hM H.size) (va_cwS k9 hC.2.2.2.2.1 hg rfl rfl rfl hd hR) ⟨fun a' U g mk q => ⟨q.1, cW_moved q.2⟩, fun U hU hW => ⟨rfl, by rw [hU], by rw [hU]; exact hPc, va_K.moved hW.alike hK, hDc.weaken (fun _ _ _ _ => trivial), zN_warm hW hC.2.2.2.2.2.2.2.1, zT_to hW hU hS hFc hC.2.2.2.2.2.2.2.2⟩⟩ rfl hnA hl.1 rfl (lv_room hcat) hdg hf)) hS (fun q _ h => hFc q h) hFc (fun q _ h => hFc q h) (fun E' ce q9 u t H1 locs1 ht hvm _ hB hz hk1 hS1 hce hcv hcl => ?_) (fun u t H1 locs1 ht hvm hp hB hz hk hS1 => hp.elim)
  obtain ⟨rfl, hB⟩ := hB
  refine vx_out (fun x hx => (hno x hx).elim) hlocks hce hcv hcl (fun t' ht' hv' => ⟨(), trivial, ⟨rfl, ?_, va_K.moved hv' hK, hD⟩, hS1.F ht'⟩) (fun z hz => hS1.2.2 z hz) (by omega) (by omega)
  rw [ht']
  exact hP.kept (fun k q hk => hk1 q.1 ((hP k q hk).lt) (fun h => by
    rcases h with ⟨k, e, h⟩ | h
    · simp at h
    · exact absurd ((hP _ q hk).lt) (by omega)))
