/-! methods that throw: the contract of bad arguments. The world is as before. -/
def MX (l : Launch) (y : MethodName) (cy : ByteArray) (nl fr lo : Nat) (ret : Option FieldType) (G : va_G) (tys : List (ClassId × FieldType)) (av : List Value) (W0 : va_W) (E : String) (mc ms : Nat) : Prop :=
  ∀ sz : Nat, vx_Met l y (.code y cy nl ret :: zAW) { frames := fr, cells := mc, slots := ms, locals := lo } (va_Pc av (cW G tys sz W0)) (fun _ _ _ _ => False) (vx_X (S := Unit) (fun _ => True) (fun E' _ t => E' = E ∧ cE G tys (va_A W0 sz) W0 t) (va_A W0 sz)) mc ms (va_A W0 sz)
theorem MX_of {l : Launch} {y : MethodName} {cy : ByteArray} {nl fr lo : Nat} {ret : Option FieldType} {G : va_G} {tys : List (ClassId × FieldType)} {av : List Value} {W0 : va_W} {E : String} {mc ms : Nat} (hy : plainName y.cls = true) (hnl : (lg_sl av).length ≤ nl) (lv : List (Nat × Value)) (hlv : lv_args 0 av = lv)
    (body : ∀ (p : Program) (e : Env) (s : State) (m : MethodId) (below : List Frame) (meth : Method) (c : Code), Cx p s m av.toArray c cy nl y.cls G tys (va_A W0 s.heap.size) → (∀ x ∈ c.exceptionTable.toList, False) → meth.locks = false → meth.name = y.name →
      ZZ p l e { frames := fr, cells := mc, slots := ms, locals := lo } s m av.toArray below meth c G (va_A W0 s.heap.size) nl 0 0 (vx_MQ below (fun _ _ _ _ => False) (vx_X (S := Unit) (fun _ => True) (fun E' _ t => E' = E ∧ cE G tys (va_A W0 s.heap.size) W0 t) (va_A W0 s.heap.size)) av.toArray s mc ms (va_A W0 s.heap.size)) W0 lv 0 []) : MX l y cy nl fr lo ret G tys av W0 E mc ms := by
  intro sz
  refine vx_ofW (cc := cy) (maxL := nl) (ret := ret) hy rfl ?_
  intro p e s m args below meth c s₁ B hml hno hv
  obtain ⟨rfl, hsz, hP, hK, hD0, hN0, hT0⟩ := hv
  subst hsz
  have hts := atoms_spec (ws := Cond.code y cy nl ret :: zAW) B.pre
  have hl := lv_entry av (n := nl) hnl
  rw [lg_entry_eq]
  exact body p e s m below meth c ⟨B.exec, B.bytes, hml, findClass_of_methodNamed B.named, fun w h => hts w (List.mem_cons_of_mem _ h), hK, fun q h => Or.inr h, hN0, hT0⟩ hno B.notSynchronized (name_of_methodNamed B.named B.method).1 s.heap [] _ hP hD0.self va_S.rf (hlv ▸ hl)
/-- throw new X("text") -/
theorem z_throw {p : Program} {l : Launch} {e : Env} {R : Room} {s : State} {m : MethodId} {args : Array Value} {below : List Frame} {meth : Method} {c : Code} {cc : ByteArray} {nL : Nat} {own : String} {G : va_G} {tys : List (ClassId × FieldType)} {A : Nat → Prop} {ws : va_W} {lv : List (Nat × Value)} {pc : Nat} {mc ms : Nat} {cls text : String} {names : List String} {ik is ic sa : Nat} {Qc : Array Value → State → Outcome → State → Prop}
    (hC : Cx p s m args c cc nL own G tys A) (hno : ∀ x ∈ c.exceptionTable.toList, False) (hlocks : meth.locks = false) (hl : l.stackTraces = false) (hcls : Bundle.fit cls = true) (hnames : ∀ n ∈ names, Bundle.fit n = true)
    (hk : (Cond.classLink own ik cls).before args s = true) (hini : (Cond.initialized cls).before args s = true) (hstr : vk_R own is text sa s) (hat : ∀ w ∈ vx_atS own ic cls names, w.before args s = true) (hgood : ∀ w ∈ Cond.classLink own ik cls :: Cond.initialized cls :: vx_atS own ic cls names, vx_ot w = true)
    (d0 : decode cc pc = .ok (.new ik, 3)) (d3 : decode cc (pc + 3) = .ok (.dup, 1)) (d4 : decode cc (pc + 4) = .ok (.ldc is, 2)) (d6 : decode cc (pc + 6) = .ok (.invokespecial ic, 3)) (d9 : decode cc (pc + 9) = .ok (.athrow, 1))
    (hfr : names.length + 3 < R.frames) (hlo : 13 * (names.length + 1) + 43 ≤ R.locals) (hRc : 1 ≤ R.cells) (hRs : 6 ≤ R.slots) (hmc : 1 ≤ mc) (hms : 6 ≤ ms) :
    ZZ p l e R s m args below meth c G A nL 0 0 (vx_MQ below Qc (vx_X (S := Unit) (fun _ => True) (fun E' _ t => E' = cls ∧ cE G tys A ws t) A) args s mc ms A) ws lv pc [] := by
  intro H locs ls hP hD hS hlv
  refine vx_throwS (A := A) hC.1 hC.2.1 hl hC.2.2.2.1 hcls hnames hk hini hstr hat hgood hC.2.2.2.2.2.2.2.2.1 hC.2.2.2.2.2.2.2.2.2 hS (hlv.1.trans hC.2.2.1.symm) d0 d3 d4 d6 d9 (fun x hx => (hno x hx).elim) hfr (by simpa using hlo) (by omega) (by omega) hlocks (fun t hv hz hq => ?_) (fun z hz => hS.2.2 z hz) (by omega) (by omega)
  refine ⟨(), trivial, ⟨rfl, ?_, va_K.moved hv hC.2.2.2.2.2.1, hD⟩, ?_⟩
  · exact hP.kept (fun k q hk => hq _ ((hP k q hk).lt))
  · exact ⟨Nat.le_trans hS.1 hz, fun q h1 h2 => (hq q (Nat.lt_of_lt_of_le h1 hS.1)).trans (hS.2.1 q h1 h2)⟩
