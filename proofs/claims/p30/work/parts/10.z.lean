/-! The bundled judgment: all that a walk knows of the heap is the list of cells ws, of the locals the list lv; words: the law's list for every method. -/
theorem aw_gin {ws : List Cond} (h : ∀ w ∈ ws, w ∈ zAW) : GoodIn zAW ws := fun w hw => ⟨h w hw, good_of_word (List.mem_filter.mp (h w hw)).2⟩
theorem aw_cd {cd : Cond} (h5 : cd ∈ zAW) : GoodIn zAW (cd :: zAW) := aw_gin (fun w hw => by
  rcases List.mem_cons.mp hw with h | h
  · exact h ▸ h5
  · exact h)
theorem aw_V {own C : String} {idx : Nat} {y : MethodName} {cd : Cond} (h1 : Cond.methodLink own idx y ∈ zAW) (h2 : Cond.instanceMethod y ∈ zAW) (h3 : Cond.selects C y y ∈ zAW) (h4 : Cond.initialized C ∈ zAW) (h5 : cd ∈ zAW) : GoodIn zAW (wsV own idx C y (cd :: zAW)) := aw_gin (fun w hw => by
  unfold wsV at hw
  simp only [List.cons_append, List.nil_append, List.mem_cons] at hw
  rcases hw with h | h | h | h | h | h
  · exact h ▸ h1
  · exact h ▸ h2
  · exact h ▸ h3
  · exact h ▸ h4
  · exact h ▸ h5
  · exact h)
theorem aw_S {own : String} {idx : Nat} {y : MethodName} {cd : Cond} (h1 : Cond.methodLink own idx y ∈ zAW) (h2 : Cond.static y ∈ zAW) (h4 : Cond.initialized y.cls ∈ zAW) (h5 : cd ∈ zAW) : GoodIn zAW (va_wsS own idx y (cd :: zAW)) := aw_gin (fun w hw => by
  unfold va_wsS at hw
  simp only [List.cons_append, List.nil_append, List.mem_cons] at hw
  rcases hw with h | h | h | h | h
  · exact h ▸ h1
  · exact h ▸ h2
  · exact h ▸ h4
  · exact h ▸ h5
  · exact h)
/-- words that a run keeps, but that are not handed on by lists: private members of nest mates, casts, declared methods, texts -/
def zNW : List Cond := [.methodLinkNest RX2 18 yX0_init RX2, .methodLinkNest RX1 18 yX2_standIn RX2, .methodLinkNest RX1 22 yX2_clayIn RX2, .methodLinkNest RX0 57 yX2_clayIn RX2, .methodLinkNest RL 56 yX3_init RL]
def zCW : List String := ["java/lang/IllegalArgumentException", "java/lang/IndexOutOfBoundsException", "java/lang/IllegalStateException"]
def zDW : List MethodName := [⟨"java/lang/RuntimeException", "<init>", "()V"⟩, ⟨"java/lang/RuntimeException", "<init>", "(Ljava/lang/String;)V"⟩, ⟨"java/lang/Exception", "<init>", "()V"⟩, ⟨"java/lang/Exception", "<init>", "(Ljava/lang/String;)V"⟩, ⟨"java/lang/Throwable", "<init>", "()V"⟩, ⟨"java/lang/Throwable", "<init>", "(Ljava/lang/String;)V"⟩]
def zSW : List (Nat × String) := [(215, "turns is not 1 to 50"), (211, "stand is not 0 to 4"), (87, "clay is not 0 to 4"), (213, "there is no such gun"), (28, "swing is not 5 to 60"), (33, "steadiness is not 1 to 9"), (41, "there are 6 guns"), (52, "base is not -45 to 45"), (54, "spread is not 0 to 45"), (79, "there are no guns")]
/-- arrays over int[]; clones of int[] -/
def zAO (U : State) : Prop := (Cond.arrayOver (.array .int)).before #[] U = true
theorem zAO_moved {u U : State} (hvm : u.vm.Alike U.vm) (h : zAO u) : zAO U := by
  obtain ⟨comp, c, k, h1, h2, h3, h4, h5⟩ := arrayOverA_spec h
  obtain ⟨k', hk', he⟩ := hvm.2.2 _ _ h3
  have hi : (U.vm.classes.findIdx? fun (x : Class) => match x.kind with | .array component _ => component == comp | _ => false) = some c := (hvm.findIdx?_eq _ (fun _ => rfl)).trans h2
  have hkind : k'.kind = .array comp (.array .int) := by rw [he]; exact h4
  have f1 : U.vm.findClass (FieldType.array .int).toString = some comp := by rw [hvm.findClass]; exact h1
  have f2 : U.vm.findClass ("[" ++ (FieldType.array .int).toString) = some c := by rw [hvm.findClass]; exact h5
  unfold zAO Cond.before Cond.holds
  simp only [Cond.value]
  rw [f1, Option.bind_some]
  refine (congrArg (fun o : Option Nat => (o.bind (fun c => (U.vm.classes[c]?).map fun (k : Class) => match k.kind with | .array _ ty => decide (ty = FieldType.array .int) && decide (U.vm.findClass ("[" ++ (FieldType.array .int).toString) = some c) | _ => false) == some true)) hi).trans ?_
  simp [hk', hkind, f2]
def zX (U : State) : Prop := va_Nw (.castable "[I" "java/lang/Cloneable") U ∧ zAO U
def zN (U : State) : Prop := (∀ w ∈ zNW, va_Nw w U) ∧ (∀ C ∈ zCW, va_Nw (.castable C C) U) ∧ (∀ x ∈ zDW, va_Nw (.declares x) U) ∧ (∀ q ∈ zSW, ∃ a : Nat, vk_R RX2 q.1 q.2 a U) ∧ zX U
theorem zN_same {u U : State} (hv : u.vm = U.vm) (h : zN u) : zN U := by
  obtain ⟨h1, h2, h3, h4, h5, h6⟩ := h
  refine ⟨fun w hw => va_Nw.same ?_ hv (h1 w hw), fun C hC => va_Nw.same rfl hv (h2 C hC), fun x hx => va_Nw.same rfl hv (h3 x hx), fun q hq => ?_, va_Nw.same rfl hv h5, zAO_moved (hv ▸ Vm.Alike.refl u.vm) h6⟩
  · simp only [zNW, List.mem_cons, List.not_mem_nil, or_false] at hw
    rcases hw with rfl | rfl | rfl | rfl | rfl <;> rfl
  · obtain ⟨a, ha⟩ := h4 q hq
    exact ⟨a, ha.same hv.symm⟩
theorem zN_warm {s U : State} (hW : s.WarmedH U.vm) (h : zN s) : zN U := by
  obtain ⟨h1, h2, h3, h4, h5, h6⟩ := h
  refine ⟨fun w hw => ?_, fun C hC => va_Nw.warmC hW (h2 C hC), fun x hx => va_Nw.warmD hW (h3 x hx), fun q hq => ?_, va_Nw.warmC hW h5, zAO_moved hW.alike h6⟩
  · have h9 := h1 w hw
    simp only [zNW, List.mem_cons, List.not_mem_nil, or_false] at hw
    rcases hw with rfl | rfl | rfl | rfl | rfl <;> exact va_Nw.warmM hW h9
  · obtain ⟨a, ha⟩ := h4 q hq
    exact ⟨a, ha.warm hW⟩
/-- the statics of Throwable, outside of what is written -/
def zT (A : Nat → Prop) (U : State) (H : Heap) : Prop := vx_Zq Bundle.tN "UNASSIGNED_STACK" Bundle.steD A U H ∧ vx_Zq Bundle.tN "SUPPRESSED_SENTINEL" Bundle.listD A U H
/-- what stays through a walk -/
def Cx (p : Program) (s : State) (m : MethodId) (args : Array Value) (c : Code) (cc : ByteArray) (nL : Nat) (own : String) (G : va_G) (tys : List (ClassId × FieldType)) (A : Nat → Prop) : Prop :=
  p.tables.exec = Jvm.exec ∧ c.code = cc ∧ c.maxLocals = nL ∧ s.vm.findClass own = some m.cls ∧ (∀ w ∈ zAW, w.before args s = true) ∧ va_K G vwCl tys s ∧ (∀ q : Nat, s.heap.size ≤ q → A q) ∧ zN s ∧ zT A s s.heap
/-- the judgment -/
def ZZ (p : Program) (l : Launch) (e : Env) (R : Room) (s : State) (m : MethodId) (args : Array Value) (below : List Frame) (meth : Method) (c : Code) (G : va_G) (A : Nat → Prop) (nL cells slots : Nat) (Q : State → Prop) (ws : va_W) (lv : List (Nat × Value)) (pc : Nat) (st : List Value) : Prop :=
  ∀ (H : Heap) (locs : List Loc) (ls : Array Slot), va_P G vwCl ws H → va_D A ws → va_S A s.heap H locs → lv_has ls nL lv → W p l e R s m args below meth c H locs cells slots Q (F0 m pc ls st)
/-- a world, at the start of a method -/
def cW (G : va_G) (tys : List (ClassId × FieldType)) (sz : Nat) (W0 : va_W) (U : State) : Prop := U.heap.size = sz ∧ va_P G vwCl W0 U.heap ∧ va_K G vwCl tys U ∧ va_D (fun _ => True) W0 ∧ zN U ∧ zT (va_A W0 sz) U U.heap
/-- a world, at its end -/
def cE (G : va_G) (tys : List (ClassId × FieldType)) (A : Nat → Prop) (W1 : va_W) (t : State) : Prop := va_P G vwCl W1 t.heap ∧ va_K G vwCl tys t ∧ va_D A W1
theorem cW_moved {G : va_G} {tys : List (ClassId × FieldType)} {sz : Nat} {W0 : va_W} {U : State} {g : JFrame} {mk : MethodId} {a : Array Value} (h : cW G tys sz W0 U) : cW G tys sz W0 (U.calling g mk a) := by
  obtain ⟨q1, qP, qK, qD, qN, qT⟩ := h
  exact ⟨q1, qP, va_K.moved (u := U) (U := U.calling g mk a) (Vm.Alike.refl U.vm) qK, qD, zN_same (u := U) (U := U.calling g mk a) rfl qN, vx_Zq.moved (u := U) (U := U.calling g mk a) (Vm.Alike.refl U.vm) qT.1, vx_Zq.moved (u := U) (U := U.calling g mk a) (Vm.Alike.refl U.vm) qT.2⟩
theorem zT_to {A B : Nat → Prop} {s U : State} {H : Heap} {locs : List Loc} (hW : s.WarmedH U.vm) (hU : U.heap = H) (hS : va_S A s.heap H locs) (hF : ∀ q, B q → A q) (h : zT A s s.heap) : zT B U U.heap := by
  rw [hU]
  exact ⟨vx_Zq.moved hW.alike ((h.1.kept hS.2.1).narrow hF), vx_Zq.moved hW.alike ((h.2.kept hS.2.1).narrow hF)⟩
/-- contracts: a method that answers an int, a long, a double, nothing; S: what is told of the world behind it -/
def MI (S : Type) (l : Launch) (y : MethodName) (cy : ByteArray) (nl fr lo : Nat) (G : va_G) (tys : List (ClassId × FieldType)) (av : List Value) (W0 : va_W) (post : Int32 → S → Prop) (W1 : S → va_W) (mc ms : Nat) : Prop :=
  ∀ sz : Nat, Met l y (.code y cy nl (some .int) :: zAW) { frames := fr, cells := mc, slots := ms, locals := lo } (va_Pc av (cW G tys sz W0)) (va_Qi post (fun u => cE G tys (va_A W0 sz) (W1 u)) (va_A W0 sz)) mc ms (va_A W0 sz)
def MB (S : Type) (l : Launch) (y : MethodName) (cy : ByteArray) (nl fr lo : Nat) (G : va_G) (tys : List (ClassId × FieldType)) (av : List Value) (W0 : va_W) (post : Int32 → S → Prop) (W1 : S → va_W) (mc ms : Nat) : Prop :=
  ∀ sz : Nat, Met l y (.code y cy nl (some .boolean) :: zAW) { frames := fr, cells := mc, slots := ms, locals := lo } (va_Pc av (cW G tys sz W0)) (va_Qi post (fun u => cE G tys (va_A W0 sz) (W1 u)) (va_A W0 sz)) mc ms (va_A W0 sz)
def ML (S : Type) (l : Launch) (y : MethodName) (cy : ByteArray) (nl fr lo : Nat) (G : va_G) (tys : List (ClassId × FieldType)) (av : List Value) (W0 : va_W) (post : Int64 → S → Prop) (W1 : S → va_W) (mc ms : Nat) : Prop :=
  ∀ sz : Nat, Met l y (.code y cy nl (some .long) :: zAW) { frames := fr, cells := mc, slots := ms, locals := lo } (va_Pc av (cW G tys sz W0)) (va_Ql post (fun u => cE G tys (va_A W0 sz) (W1 u)) (va_A W0 sz)) mc ms (va_A W0 sz)
def MD (S : Type) (l : Launch) (y : MethodName) (cy : ByteArray) (nl fr lo : Nat) (G : va_G) (tys : List (ClassId × FieldType)) (av : List Value) (W0 : va_W) (post : UInt64 → S → Prop) (W1 : S → va_W) (mc ms : Nat) : Prop :=
  ∀ sz : Nat, Met l y (.code y cy nl (some .double) :: zAW) { frames := fr, cells := mc, slots := ms, locals := lo } (va_Pc av (cW G tys sz W0)) (va_Qd post (fun u => cE G tys (va_A W0 sz) (W1 u)) (va_A W0 sz)) mc ms (va_A W0 sz)
def MV (S : Type) (l : Launch) (y : MethodName) (cy : ByteArray) (nl fr lo : Nat) (G : va_G) (tys : List (ClassId × FieldType)) (av : List Value) (W0 : va_W) (post : S → Prop) (W1 : S → va_W) (mc ms : Nat) : Prop :=
  ∀ sz : Nat, Met l y (.code y cy nl none :: zAW) { frames := fr, cells := mc, slots := ms, locals := lo } (va_Pc av (cW G tys sz W0)) (va_Qv post (fun u => cE G tys (va_A W0 sz) (W1 u)) (va_A W0 sz)) mc ms (va_A W0 sz)
theorem wmap_at {is : List Nat} {ws w : va_W} (hs : is.map (fun i => ws[i]?) = w.map some) (k : Nat) (q : Nat × va_E) (hq : w[k]? = some q) : ∃ i, is[k]? = some i ∧ ws[i]? = some q := by
  have h1 : (is.map (fun i => ws[i]?))[k]? = some (some q) := by rw [hs, List.getElem?_map, hq]; rfl
  rw [List.getElem?_map] at h1
  cases hi : is[k]? with
  | none => rw [hi] at h1; cases h1
  | some i => rw [hi] at h1; exact ⟨i, rfl, Option.some.inj h1⟩
theorem wmap_ta {is : List Nat} {ws w : va_W} (hs : is.map (fun i => ws[i]?) = w.map some) (k i : Nat) (hi : is[k]? = some i) : ∃ q, w[k]? = some q ∧ ws[i]? = some q := by
  have h1 : (is.map (fun i => ws[i]?))[k]? = some (ws[i]?) := by rw [List.getElem?_map, hi]; rfl
  rw [hs, List.getElem?_map] at h1
  cases hw : w[k]? with
  | none => rw [hw] at h1; cases h1
  | some q => rw [hw] at h1; exact ⟨q, rfl, (Option.some.inj h1).symm⟩
theorem wmap_P {G : va_G} {is : List Nat} {ws w : va_W} {H : Heap} (h : va_P G vwCl ws H) (hs : is.map (fun i => ws[i]?) = w.map some) : va_P G vwCl w H := by
  intro k q hk
  obtain ⟨i, -, hi⟩ := wmap_at hs k q hk
  exact h i q hi
/-- a world's cell is the callee's, or an old one -/
theorem wget_of {ws w2 W1 : va_W} {is js : List Nat} (hA : is.map (fun i => w2[i]?) = W1.map some) (hB : js.map (fun i => w2[i]?) = js.map (fun i => ws[i]?)) (hcv : (List.range w2.length).all (fun k => is.contains k || js.contains k) = true) (k : Nat) (q : Nat × va_E) (h : w2[k]? = some q) : (∃ j : Nat, is[j]? = some k ∧ W1[j]? = some q) ∨ (k ∉ is ∧ ws[k]? = some q) := by
  have hk : k < w2.length := (List.getElem?_eq_some_iff.mp h).1
  have h1 := List.all_eq_true.mp hcv k (List.mem_range.mpr hk)
  by_cases hi : k ∈ is
  · obtain ⟨j, hj⟩ := List.getElem?_of_mem hi
    obtain ⟨q', h2, h3⟩ := wmap_ta hA j k hj
    rw [h] at h3
    cases h3
    exact Or.inl ⟨j, hj, h2⟩
  · have hjs : k ∈ js := by
      rcases Bool.or_eq_true _ _ ▸ h1 with h2 | h2
      · exact absurd (List.contains_iff_mem.mp h2) hi
      · exact List.contains_iff_mem.mp h2
    obtain ⟨j, hj⟩ := List.getElem?_of_mem hjs
    have h4 : (js.map (fun i => w2[i]?))[j]? = (js.map (fun i => ws[i]?))[j]? := by rw [hB]
    rw [List.getElem?_map, List.getElem?_map, hj] at h4
    have h5 : w2[k]? = ws[k]? := Option.some.inj h4
    exact Or.inr ⟨hi, h5 ▸ h⟩
/-- behind a call: the callee's cells at their places, the rest unchanged -/
theorem wput_ok {G : va_G} {A : Nat → Prop} {ws w2 W0 W1 : va_W} {H H1 : Heap} {is : List Nat} (hP : va_P G vwCl ws H) (hD : va_D A ws) (hC : is.map (fun i => ws[i]?) = W0.map some) (hadr : W1.map Prod.fst = W0.map Prod.fst) (hg : ∀ (k : Nat) (q : Nat × va_E), w2[k]? = some q → (∃ j : Nat, is[j]? = some k ∧ W1[j]? = some q) ∨ (k ∉ is ∧ ws[k]? = some q))
    (hk : ∀ q : Nat, q < H.size → ¬ va_A W0 H.size q → H1[q]? = H[q]?) (hP1 : va_P G vwCl W1 H1) : va_P G vwCl w2 H1 ∧ va_D A w2 := by
  have adr : ∀ (k : Nat) (q : Nat × va_E), w2[k]? = some q → ∃ q0, ws[k]? = some q0 ∧ q0.1 = q.1 := by
    intro k q hq
    rcases hg k q hq with ⟨j, hj, hq1⟩ | ⟨-, hq1⟩
    · obtain ⟨q0, h0, h0'⟩ := wmap_ta hC j k hj
      refine ⟨q0, h0', ?_⟩
      have e1 : (W1.map Prod.fst)[j]? = some q.1 := by rw [List.getElem?_map, hq1]; rfl
      have e0 : (W0.map Prod.fst)[j]? = some q0.1 := by rw [List.getElem?_map, h0]; rfl
      rw [hadr, e0] at e1
      exact Option.some.inj e1
    · exact ⟨q, hq1, rfl⟩
  refine ⟨fun k q hq => ?_, fun i j x y hi hj hxy => ?_, fun k q hq => ?_⟩
  · rcases hg k q hq with ⟨j, hj, hq1⟩ | ⟨hn, hq1⟩
    · exact hP1 j q hq1
    · have hl := (hP k q hq1).lt
      refine (hP k q hq1).kept (hk q.1 hl fun h => ?_)
      rcases h with ⟨k2, e, h⟩ | h
      · obtain ⟨j, h3, h4⟩ := wmap_at hC k2 (q.1, e) h
        have hij := hD.1 k j q (q.1, e) hq1 h4 rfl
        subst hij
        exact hn (List.mem_of_getElem? h3)
      · exact absurd hl (Nat.not_lt.mpr h)
  · obtain ⟨x0, h1, h2⟩ := adr i x hi
    obtain ⟨y0, h3, h4⟩ := adr j y hj
    exact hD.1 i j x0 y0 h1 h3 (h2.trans (hxy.trans h4.symm))
  · obtain ⟨q0, h1, h2⟩ := adr k q hq
    rw [← h2]
    exact hD.2 k q0 h1
section ZR
variable {p : Program} {l : Launch} {e : Env} {R : Room} {s : State} {m : MethodId} {args : Array Value} {below : List Frame} {meth : Method} {c : Code} {cc : ByteArray} {nL : Nat} {own : String} {G : va_G} {tys : List (ClassId × FieldType)} {A : Nat → Prop} {cells slots : Nat} {Q : State → Prop}
variable {ws : va_W} {lv : List (Nat × Value)} {pc n : Nat} {rest : List Value}

theorem z_iconst (hC : Cx p s m args c cc nL own G tys A) {z : Int} {v : Int32} (hdg : decode cc pc = .ok (.iconst z, 1)) (hv : Int32.ofInt z = v) (hn : pc + 1 = n) (k : ZZ p l e R s m args below meth c G A nL cells slots Q ws lv n (.int v :: rest)) : ZZ p l e R s m args below meth c G A nL cells slots Q ws lv pc (rest) := by
  subst hn
  exact fun H locs ls hP hD hS hl => lv_iconst hC.1 hC.2.1 hdg hv (k H locs ls hP hD hS hl)
theorem z_bipush (hC : Cx p s m args c cc nL own G tys A) {z : Int} {v : Int32} (hdg : decode cc pc = .ok (.bipush z, 2)) (hv : (Int8.ofInt z).toInt32 = v) (hn : pc + 2 = n) (k : ZZ p l e R s m args below meth c G A nL cells slots Q ws lv n (.int v :: rest)) : ZZ p l e R s m args below meth c G A nL cells slots Q ws lv pc (rest) := by
  subst hn
  exact fun H locs ls hP hD hS hl => lv_bipush hC.1 hC.2.1 hdg hv (k H locs ls hP hD hS hl)
theorem z_sipush (hC : Cx p s m args c cc nL own G tys A) {z : Int} {v : Int32} (hdg : decode cc pc = .ok (.sipush z, 3)) (hv : (Int16.ofInt z).toInt32 = v) (hn : pc + 3 = n) (k : ZZ p l e R s m args below meth c G A nL cells slots Q ws lv n (.int v :: rest)) : ZZ p l e R s m args below meth c G A nL cells slots Q ws lv pc (rest) := by
  subst hn
  exact fun H locs ls hP hD hS hl => lv_sipush hC.1 hC.2.1 hdg hv (k H locs ls hP hD hS hl)
theorem z_iload_n (hC : Cx p s m args c cc nL own G tys A) {f : Fin 4} {i : Nat} {x : Int32} (hdg : decode cc pc = .ok (.iload_n f, 1)) (hi : (f : Nat) = i) (j : Nat) (hj : lv[j]? = some (i, .int x)) (hn : pc + 1 = n) (k : ZZ p l e R s m args below meth c G A nL cells slots Q ws lv n (.int x :: rest)) : ZZ p l e R s m args below meth c G A nL cells slots Q ws lv pc (rest) := by
  subst hn
  exact fun H locs ls hP hD hS hl => lv_iload_n hC.1 hC.2.1 hdg hi (lv_at hl j hj) (k H locs ls hP hD hS hl)
theorem z_iload (hC : Cx p s m args c cc nL own G tys A) {i : Nat} {x : Int32} (hdg : decode cc pc = .ok (.iload i, 2)) (j : Nat) (hj : lv[j]? = some (i, .int x)) (hn : pc + 2 = n) (k : ZZ p l e R s m args below meth c G A nL cells slots Q ws lv n (.int x :: rest)) : ZZ p l e R s m args below meth c G A nL cells slots Q ws lv pc (rest) := by
  subst hn
  exact fun H locs ls hP hD hS hl => lv_iload hC.1 hC.2.1 hdg (lv_at hl j hj) (k H locs ls hP hD hS hl)
theorem z_lload_n (hC : Cx p s m args c cc nL own G tys A) {f : Fin 4} {i : Nat} {x : Int64} (hdg : decode cc pc = .ok (.lload_n f, 1)) (hi : (f : Nat) = i) (j : Nat) (hj : lv[j]? = some (i, .long x)) (hn : pc + 1 = n) (k : ZZ p l e R s m args below meth c G A nL cells slots Q ws lv n (.long x :: rest)) : ZZ p l e R s m args below meth c G A nL cells slots Q ws lv pc (rest) := by
  subst hn
  exact fun H locs ls hP hD hS hl => lv_lload_n hC.1 hC.2.1 hdg hi (lv_at hl j hj) (k H locs ls hP hD hS hl)
theorem z_aload_n (hC : Cx p s m args c cc nL own G tys A) {f : Fin 4} {i : Nat} {x : Nat} (hdg : decode cc pc = .ok (.aload_n f, 1)) (hi : (f : Nat) = i) (j : Nat) (hj : lv[j]? = some (i, .ref x)) (hn : pc + 1 = n) (k : ZZ p l e R s m args below meth c G A nL cells slots Q ws lv n (.ref x :: rest)) : ZZ p l e R s m args below meth c G A nL cells slots Q ws lv pc (rest) := by
  subst hn
  exact fun H locs ls hP hD hS hl => lv_aload_n hC.1 hC.2.1 hdg hi (lv_at hl j hj) (k H locs ls hP hD hS hl)
theorem z_aload (hC : Cx p s m args c cc nL own G tys A) {i : Nat} {x : Nat} (hdg : decode cc pc = .ok (.aload i, 2)) (j : Nat) (hj : lv[j]? = some (i, .ref x)) (hn : pc + 2 = n) (k : ZZ p l e R s m args below meth c G A nL cells slots Q ws lv n (.ref x :: rest)) : ZZ p l e R s m args below meth c G A nL cells slots Q ws lv pc (rest) := by
  subst hn
  exact fun H locs ls hP hD hS hl => lv_aload hC.1 hC.2.1 hdg (lv_at hl j hj) (k H locs ls hP hD hS hl)
theorem z_dload (hC : Cx p s m args c cc nL own G tys A) {i : Nat} {x : UInt64} (hdg : decode cc pc = .ok (.dload i, 2)) (j : Nat) (hj : lv[j]? = some (i, .double x)) (hn : pc + 2 = n) (k : ZZ p l e R s m args below meth c G A nL cells slots Q ws lv n (.double x :: rest)) : ZZ p l e R s m args below meth c G A nL cells slots Q ws lv pc (rest) := by
  subst hn
  exact fun H locs ls hP hD hS hl => lv_dload hC.1 hC.2.1 hdg (lv_at hl j hj) (k H locs ls hP hD hS hl)
theorem z_istore_n (hC : Cx p s m args c cc nL own G tys A) {f : Fin 4} {i : Nat} {x : Int32} {lv' : List (Nat × Value)} (hdg : decode cc pc = .ok (.istore_n f, 1)) (hi : (f : Nat) = i) (hr : i < nL) (hl9 : (i, Value.int x) :: lv.filter (fun q => !(q.1 == i) && !(q.1 + 1 == i && q.2.category == 2)) = lv') (hn : pc + 1 = n) (k : ZZ p l e R s m args below meth c G A nL cells slots Q ws lv' n rest) : ZZ p l e R s m args below meth c G A nL cells slots Q ws lv pc (.int x :: rest) := by
  subst hn
  exact fun H locs ls hP hD hS hl => lv_istore_n hC.1 hC.2.1 hdg hi hl hr hl9 (fun ls' hl' => k H locs ls' hP hD hS hl')
theorem z_istore (hC : Cx p s m args c cc nL own G tys A) {i : Nat} {x : Int32} {lv' : List (Nat × Value)} (hdg : decode cc pc = .ok (.istore i, 2)) (hr : i < nL) (hl9 : (i, Value.int x) :: lv.filter (fun q => !(q.1 == i) && !(q.1 + 1 == i && q.2.category == 2)) = lv') (hn : pc + 2 = n) (k : ZZ p l e R s m args below meth c G A nL cells slots Q ws lv' n rest) : ZZ p l e R s m args below meth c G A nL cells slots Q ws lv pc (.int x :: rest) := by
  subst hn
  exact fun H locs ls hP hD hS hl => lv_istore hC.1 hC.2.1 hdg hl hr hl9 (fun ls' hl' => k H locs ls' hP hD hS hl')
theorem z_astore_n (hC : Cx p s m args c cc nL own G tys A) {f : Fin 4} {i : Nat} {x : Nat} {lv' : List (Nat × Value)} (hdg : decode cc pc = .ok (.astore_n f, 1)) (hi : (f : Nat) = i) (hr : i < nL) (hl9 : (i, Value.ref x) :: lv.filter (fun q => !(q.1 == i) && !(q.1 + 1 == i && q.2.category == 2)) = lv') (hn : pc + 1 = n) (k : ZZ p l e R s m args below meth c G A nL cells slots Q ws lv' n rest) : ZZ p l e R s m args below meth c G A nL cells slots Q ws lv pc (.ref x :: rest) := by
  subst hn
  exact fun H locs ls hP hD hS hl => lv_astore_n hC.1 hC.2.1 hdg hi hl hr hl9 (fun ls' hl' => k H locs ls' hP hD hS hl')
theorem z_astore (hC : Cx p s m args c cc nL own G tys A) {i : Nat} {x : Nat} {lv' : List (Nat × Value)} (hdg : decode cc pc = .ok (.astore i, 2)) (hr : i < nL) (hl9 : (i, Value.ref x) :: lv.filter (fun q => !(q.1 == i) && !(q.1 + 1 == i && q.2.category == 2)) = lv') (hn : pc + 2 = n) (k : ZZ p l e R s m args below meth c G A nL cells slots Q ws lv' n rest) : ZZ p l e R s m args below meth c G A nL cells slots Q ws lv pc (.ref x :: rest) := by
  subst hn
  exact fun H locs ls hP hD hS hl => lv_astore hC.1 hC.2.1 hdg hl hr hl9 (fun ls' hl' => k H locs ls' hP hD hS hl')
theorem z_lstore_n (hC : Cx p s m args c cc nL own G tys A) {f : Fin 4} {i : Nat} {x : Int64} {lv' : List (Nat × Value)} (hdg : decode cc pc = .ok (.lstore_n f, 1)) (hi : (f : Nat) = i) (hr : i + 1 < nL) (hl9 : (i, Value.long x) :: lv.filter (fun q => !(q.1 == i) && (!(q.1 == i + 1) && !(q.1 + 1 == i && q.2.category == 2))) = lv') (hn : pc + 1 = n) (k : ZZ p l e R s m args below meth c G A nL cells slots Q ws lv' n rest) : ZZ p l e R s m args below meth c G A nL cells slots Q ws lv pc (.long x :: rest) := by
  subst hn
  exact fun H locs ls hP hD hS hl => lv_lstore_n hC.1 hC.2.1 hdg hi hl hr hl9 (fun ls' hl' => k H locs ls' hP hD hS hl')
theorem z_dstore (hC : Cx p s m args c cc nL own G tys A) {i : Nat} {x : UInt64} {lv' : List (Nat × Value)} (hdg : decode cc pc = .ok (.dstore i, 2)) (hr : i + 1 < nL) (hl9 : (i, Value.double x) :: lv.filter (fun q => !(q.1 == i) && (!(q.1 == i + 1) && !(q.1 + 1 == i && q.2.category == 2))) = lv') (hn : pc + 2 = n) (k : ZZ p l e R s m args below meth c G A nL cells slots Q ws lv' n rest) : ZZ p l e R s m args below meth c G A nL cells slots Q ws lv pc (.double x :: rest) := by
  subst hn
  exact fun H locs ls hP hD hS hl => lv_dstore hC.1 hC.2.1 hdg hl hr hl9 (fun ls' hl' => k H locs ls' hP hD hS hl')
theorem z_iinc (hC : Cx p s m args c cc nL own G tys A) {i k0 : Nat} {z : Int} {x v : Int32} {lv' : List (Nat × Value)} (hdg : decode cc pc = .ok (.iinc i z, 3)) (hk : lv[k0]? = some (i, .int x)) (hv : x + Int32.ofInt z = v) (hr : i < nL) (hl9 : (i, Value.int v) :: lv.filter (fun q => !(q.1 == i) && !(q.1 + 1 == i && q.2.category == 2)) = lv') (hn : pc + 3 = n) (k : ZZ p l e R s m args below meth c G A nL cells slots Q ws lv' n rest) : ZZ p l e R s m args below meth c G A nL cells slots Q ws lv pc rest := by
  subst hn
  exact fun H locs ls hP hD hS hl => lv_iinc hC.1 hC.2.1 hdg hl hk hv hr hl9 (fun ls' hl' => k H locs ls' hP hD hS hl')
theorem z_iadd (hC : Cx p s m args c cc nL own G tys A) {x y v : Int32} (hdg : decode cc pc = .ok (.iadd, 1)) (hv : x + y = v) (hn : pc + 1 = n) (k : ZZ p l e R s m args below meth c G A nL cells slots Q ws lv n (.int v :: rest)) : ZZ p l e R s m args below meth c G A nL cells slots Q ws lv pc (.int y :: .int x :: rest) := by
  subst hn; subst hv
  exact fun H locs ls hP hD hS hl => lv_iadd hC.1 hC.2.1 hdg (k H locs ls hP hD hS hl)
theorem z_isub (hC : Cx p s m args c cc nL own G tys A) {x y v : Int32} (hdg : decode cc pc = .ok (.isub, 1)) (hv : x - y = v) (hn : pc + 1 = n) (k : ZZ p l e R s m args below meth c G A nL cells slots Q ws lv n (.int v :: rest)) : ZZ p l e R s m args below meth c G A nL cells slots Q ws lv pc (.int y :: .int x :: rest) := by
  subst hn; subst hv
  exact fun H locs ls hP hD hS hl => lv_isub hC.1 hC.2.1 hdg (k H locs ls hP hD hS hl)
theorem z_imul (hC : Cx p s m args c cc nL own G tys A) {x y v : Int32} (hdg : decode cc pc = .ok (.imul, 1)) (hv : x * y = v) (hn : pc + 1 = n) (k : ZZ p l e R s m args below meth c G A nL cells slots Q ws lv n (.int v :: rest)) : ZZ p l e R s m args below meth c G A nL cells slots Q ws lv pc (.int y :: .int x :: rest) := by
  subst hn; subst hv
  exact fun H locs ls hP hD hS hl => lv_imul hC.1 hC.2.1 hdg (k H locs ls hP hD hS hl)
theorem z_iand (hC : Cx p s m args c cc nL own G tys A) {x y v : Int32} (hdg : decode cc pc = .ok (.iand, 1)) (hv : x &&& y = v) (hn : pc + 1 = n) (k : ZZ p l e R s m args below meth c G A nL cells slots Q ws lv n (.int v :: rest)) : ZZ p l e R s m args below meth c G A nL cells slots Q ws lv pc (.int y :: .int x :: rest) := by
  subst hn; subst hv
  exact fun H locs ls hP hD hS hl => lv_iand hC.1 hC.2.1 hdg (k H locs ls hP hD hS hl)
theorem z_ior (hC : Cx p s m args c cc nL own G tys A) {x y v : Int32} (hdg : decode cc pc = .ok (.ior, 1)) (hv : x ||| y = v) (hn : pc + 1 = n) (k : ZZ p l e R s m args below meth c G A nL cells slots Q ws lv n (.int v :: rest)) : ZZ p l e R s m args below meth c G A nL cells slots Q ws lv pc (.int y :: .int x :: rest) := by
  subst hn; subst hv
  exact fun H locs ls hP hD hS hl => lv_ior hC.1 hC.2.1 hdg (k H locs ls hP hD hS hl)
theorem z_ixor (hC : Cx p s m args c cc nL own G tys A) {x y v : Int32} (hdg : decode cc pc = .ok (.ixor, 1)) (hv : x ^^^ y = v) (hn : pc + 1 = n) (k : ZZ p l e R s m args below meth c G A nL cells slots Q ws lv n (.int v :: rest)) : ZZ p l e R s m args below meth c G A nL cells slots Q ws lv pc (.int y :: .int x :: rest) := by
  subst hn; subst hv
  exact fun H locs ls hP hD hS hl => lv_ixor hC.1 hC.2.1 hdg (k H locs ls hP hD hS hl)
theorem z_ishl (hC : Cx p s m args c cc nL own G tys A) {x y v : Int32} (hdg : decode cc pc = .ok (.ishl, 1)) (hv : x <<< (y &&& 31) = v) (hn : pc + 1 = n) (k : ZZ p l e R s m args below meth c G A nL cells slots Q ws lv n (.int v :: rest)) : ZZ p l e R s m args below meth c G A nL cells slots Q ws lv pc (.int y :: .int x :: rest) := by
  subst hn; subst hv
  exact fun H locs ls hP hD hS hl => lv_ishl hC.1 hC.2.1 hdg (k H locs ls hP hD hS hl)
theorem z_ishr (hC : Cx p s m args c cc nL own G tys A) {x y v : Int32} (hdg : decode cc pc = .ok (.ishr, 1)) (hv : x >>> (y &&& 31) = v) (hn : pc + 1 = n) (k : ZZ p l e R s m args below meth c G A nL cells slots Q ws lv n (.int v :: rest)) : ZZ p l e R s m args below meth c G A nL cells slots Q ws lv pc (.int y :: .int x :: rest) := by
  subst hn; subst hv
  exact fun H locs ls hP hD hS hl => lv_ishr hC.1 hC.2.1 hdg (k H locs ls hP hD hS hl)
theorem z_idiv (hC : Cx p s m args c cc nL own G tys A) {x y v : Int32} (hdg : decode cc pc = .ok (.idiv, 1)) (hne : ¬ y = 0) (hv : x / y = v) (hn : pc + 1 = n) (k : ZZ p l e R s m args below meth c G A nL cells slots Q ws lv n (.int v :: rest)) : ZZ p l e R s m args below meth c G A nL cells slots Q ws lv pc (.int y :: .int x :: rest) := by
  subst hn; subst hv
  exact fun H locs ls hP hD hS hl => lv_idiv hC.1 hC.2.1 hdg hne (k H locs ls hP hD hS hl)
theorem z_irem (hC : Cx p s m args c cc nL own G tys A) {x y v : Int32} (hdg : decode cc pc = .ok (.irem, 1)) (hne : ¬ y = 0) (hv : x - x / y * y = v) (hn : pc + 1 = n) (k : ZZ p l e R s m args below meth c G A nL cells slots Q ws lv n (.int v :: rest)) : ZZ p l e R s m args below meth c G A nL cells slots Q ws lv pc (.int y :: .int x :: rest) := by
  subst hn; subst hv
  exact fun H locs ls hP hD hS hl => lv_irem hC.1 hC.2.1 hdg hne (k H locs ls hP hD hS hl)
theorem z_iushr (hC : Cx p s m args c cc nL own G tys A) {x y v : Int32} (hdg : decode cc pc = .ok (.iushr, 1)) (hv : (x.toUInt32 >>> (y.toUInt32 &&& Int32.toUInt32 31)).toInt32 = v) (hn : pc + 1 = n) (k : ZZ p l e R s m args below meth c G A nL cells slots Q ws lv n (.int v :: rest)) : ZZ p l e R s m args below meth c G A nL cells slots Q ws lv pc (.int y :: .int x :: rest) := by
  subst hn
  exact fun H locs ls hP hD hS hl => lv_iushr hC.1 hC.2.1 hdg hv (k H locs ls hP hD hS hl)
theorem z_ineg (hC : Cx p s m args c cc nL own G tys A) {x v : Int32} (hdg : decode cc pc = .ok (.ineg, 1)) (hv : -x = v) (hn : pc + 1 = n) (k : ZZ p l e R s m args below meth c G A nL cells slots Q ws lv n (.int v :: rest)) : ZZ p l e R s m args below meth c G A nL cells slots Q ws lv pc (.int x :: rest) := by
  subst hn; subst hv
  exact fun H locs ls hP hD hS hl => lv_ineg hC.1 hC.2.1 hdg (k H locs ls hP hD hS hl)
theorem z_ladd (hC : Cx p s m args c cc nL own G tys A) {x y : Int64} (hdg : decode cc pc = .ok (.ladd, 1))  (hn : pc + 1 = n) (k : ZZ p l e R s m args below meth c G A nL cells slots Q ws lv n (.long (x + y) :: rest)) : ZZ p l e R s m args below meth c G A nL cells slots Q ws lv pc (.long y :: .long x :: rest) := by
  subst hn
  exact fun H locs ls hP hD hS hl => lv_ladd hC.1 hC.2.1 hdg (k H locs ls hP hD hS hl)
theorem z_lmul (hC : Cx p s m args c cc nL own G tys A) {x y : Int64} (hdg : decode cc pc = .ok (.lmul, 1))  (hn : pc + 1 = n) (k : ZZ p l e R s m args below meth c G A nL cells slots Q ws lv n (.long (x * y) :: rest)) : ZZ p l e R s m args below meth c G A nL cells slots Q ws lv pc (.long y :: .long x :: rest) := by
  subst hn
  exact fun H locs ls hP hD hS hl => lv_lmul hC.1 hC.2.1 hdg (k H locs ls hP hD hS hl)
theorem z_lcmp (hC : Cx p s m args c cc nL own G tys A) {x y : Int64} (hdg : decode cc pc = .ok (.lcmp, 1))  (hn : pc + 1 = n) (k : ZZ p l e R s m args below meth c G A nL cells slots Q ws lv n (.int (lg_cmp x y) :: rest)) : ZZ p l e R s m args below meth c G A nL cells slots Q ws lv pc (.long y :: .long x :: rest) := by
  subst hn
  exact fun H locs ls hP hD hS hl => W.lcmp hC.1 hC.2.1 hdg (k H locs ls hP hD hS hl)
theorem z_i2l (hC : Cx p s m args c cc nL own G tys A) {x : Int32} {v : Int64} (hdg : decode cc pc = .ok (.i2l, 1)) (hv : x.toInt64 = v) (hn : pc + 1 = n) (k : ZZ p l e R s m args below meth c G A nL cells slots Q ws lv n (.long v :: rest)) : ZZ p l e R s m args below meth c G A nL cells slots Q ws lv pc (.int x :: rest) := by
  subst hn
  exact fun H locs ls hP hD hS hl => lv_i2l hC.1 hC.2.1 hdg hv (k H locs ls hP hD hS hl)
theorem z_i2d (hC : Cx p s m args c cc nL own G tys A) {x : Int32} (hdg : decode cc pc = .ok (.i2d, 1))  (hn : pc + 1 = n) (k : ZZ p l e R s m args below meth c G A nL cells slots Q ws lv n (.double (FP.i2d x) :: rest)) : ZZ p l e R s m args below meth c G A nL cells slots Q ws lv pc (.int x :: rest) := by
  subst hn
  exact fun H locs ls hP hD hS hl => lv_i2d hC.1 hC.2.1 hdg (k H locs ls hP hD hS hl)
theorem z_ddiv (hC : Cx p s m args c cc nL own G tys A) {x y : UInt64} (hdg : decode cc pc = .ok (.ddiv, 1)) (hne : vf_n64 (FP.ddiv x y)) (hn : pc + 1 = n) (k : ZZ p l e R s m args below meth c G A nL cells slots Q ws lv n (.double (FP.ddiv x y) :: rest)) : ZZ p l e R s m args below meth c G A nL cells slots Q ws lv pc (.double y :: .double x :: rest) := by
  subst hn
  exact fun H locs ls hP hD hS hl => lv_ddiv hC.1 hC.2.1 hdg hne (k H locs ls hP hD hS hl)
theorem z_dcmp (hC : Cx p s m args c cc nL own G tys A) {x y : UInt64} {op : CmpOp} (hdg : decode cc pc = .ok (.dcmp op, 1))  (hn : pc + 1 = n) (k : ZZ p l e R s m args below meth c G A nL cells slots Q ws lv n (.int (Op.cmpValue (FP.dcmp x y) op) :: rest)) : ZZ p l e R s m args below meth c G A nL cells slots Q ws lv pc (.double y :: .double x :: rest) := by
  subst hn
  exact fun H locs ls hP hD hS hl => lv_dcmp hC.1 hC.2.1 hdg (k H locs ls hP hD hS hl)
theorem z_dconst0 (hC : Cx p s m args c cc nL own G tys A)  (hdg : decode cc pc = .ok (.dconst 0, 1))  (hn : pc + 1 = n) (k : ZZ p l e R s m args below meth c G A nL cells slots Q ws lv n (.double FP.dconst0 :: rest)) : ZZ p l e R s m args below meth c G A nL cells slots Q ws lv pc (rest) := by
  subst hn
  exact fun H locs ls hP hD hS hl => lv_dconst0 hC.1 hC.2.1 hdg (k H locs ls hP hD hS hl)
theorem z_dup (hC : Cx p s m args c cc nL own G tys A) {va : Value} (hdg : decode cc pc = .ok (.dup, 1)) (hva : va.category = 1) (hn : pc + 1 = n) (k : ZZ p l e R s m args below meth c G A nL cells slots Q ws lv n (va :: va :: rest)) : ZZ p l e R s m args below meth c G A nL cells slots Q ws lv pc (va :: rest) := by
  subst hn
  exact fun H locs ls hP hD hS hl => lv_dup hC.1 hC.2.1 hdg hva (k H locs ls hP hD hS hl)
theorem z_pop (hC : Cx p s m args c cc nL own G tys A) {va : Value} (hdg : decode cc pc = .ok (.pop, 1)) (hva : va.category = 1) (hn : pc + 1 = n) (k : ZZ p l e R s m args below meth c G A nL cells slots Q ws lv n (rest)) : ZZ p l e R s m args below meth c G A nL cells slots Q ws lv pc (va :: rest) := by
  subst hn
  exact fun H locs ls hP hD hS hl => lv_pop hC.1 hC.2.1 hdg hva (k H locs ls hP hD hS hl)
theorem z_dup2 (hC : Cx p s m args c cc nL own G tys A) {va vb : Value} (hdg : decode cc pc = .ok (.dup2, 1)) (hva : va.category = 1) (hvb : vb.category = 1) (hn : pc + 1 = n) (k : ZZ p l e R s m args below meth c G A nL cells slots Q ws lv n (va :: vb :: va :: vb :: rest)) : ZZ p l e R s m args below meth c G A nL cells slots Q ws lv pc (va :: vb :: rest) := by
  subst hn
  exact fun H locs ls hP hD hS hl => lv_dup2_11 hC.1 hC.2.1 hdg hva hvb (k H locs ls hP hD hS hl)
theorem z_goto (hC : Cx p s m args c cc nL own G tys A) {off : Int} (hdg : decode cc pc = .ok (.goto off, 3)) (ht : (pc : Int) + off = (n : Int)) (k : ZZ p l e R s m args below meth c G A nL cells slots Q ws lv n rest) : ZZ p l e R s m args below meth c G A nL cells slots Q ws lv pc rest :=
  fun H locs ls hP hD hS hl => lv_goto hC.1 hC.2.1 hdg ht (k H locs ls hP hD hS hl)
theorem z_if_eq (hC : Cx p s m args c cc nL own G tys A) {x : Int32} {off : Int} {tgt : Nat} (hdg : decode cc pc = .ok (.ifCond .eq off, 3)) (ht : (pc : Int) + off = (tgt : Int)) (hn : pc + 3 = n) (kt : x = 0 → ZZ p l e R s m args below meth c G A nL cells slots Q ws lv tgt rest) (kf : ¬ x = 0 → ZZ p l e R s m args below meth c G A nL cells slots Q ws lv n rest) : ZZ p l e R s m args below meth c G A nL cells slots Q ws lv pc (.int x :: rest) := by
  subst hn
  exact fun H locs ls hP hD hS hl => lv_if_eq hC.1 hC.2.1 hdg ht (fun h => kt h H locs ls hP hD hS hl) (fun h => kf h H locs ls hP hD hS hl)
theorem z_icmp_eq (hC : Cx p s m args c cc nL own G tys A) {x y : Int32} {off : Int} {tgt : Nat} (hdg : decode cc pc = .ok (.if_icmp .eq off, 3)) (ht : (pc : Int) + off = (tgt : Int)) (hn : pc + 3 = n) (kt : x = y → ZZ p l e R s m args below meth c G A nL cells slots Q ws lv tgt rest) (kf : ¬ x = y → ZZ p l e R s m args below meth c G A nL cells slots Q ws lv n rest) : ZZ p l e R s m args below meth c G A nL cells slots Q ws lv pc (.int y :: .int x :: rest) := by
  subst hn
  exact fun H locs ls hP hD hS hl => lv_icmp_eq hC.1 hC.2.1 hdg ht (fun h => kt h H locs ls hP hD hS hl) (fun h => kf h H locs ls hP hD hS hl)
theorem z_icmp_eq_n (hC : Cx p s m args c cc nL own G tys A) {x y : Int32} {off : Int} {tgt : Nat} (a b : Nat) (hx : x = nI a) (hy : y = nI b) (ha : a < 2 ^ 31) (hb : b < 2 ^ 31) (hdg : decode cc pc = .ok (.if_icmp .eq off, 3)) (ht : (pc : Int) + off = (tgt : Int)) (hn : pc + 3 = n) (kt : a = b → ZZ p l e R s m args below meth c G A nL cells slots Q ws lv tgt rest) (kf : ¬ a = b → ZZ p l e R s m args below meth c G A nL cells slots Q ws lv n rest) : ZZ p l e R s m args below meth c G A nL cells slots Q ws lv pc (.int y :: .int x :: rest) := by
  subst hx; subst hy
  exact z_icmp_eq hC hdg ht hn (fun h => kt ((nI_eq ha hb).mp h)) (fun h => kf (fun z => h ((nI_eq ha hb).mpr z)))
theorem z_if_ne (hC : Cx p s m args c cc nL own G tys A) {x : Int32} {off : Int} {tgt : Nat} (hdg : decode cc pc = .ok (.ifCond .ne off, 3)) (ht : (pc : Int) + off = (tgt : Int)) (hn : pc + 3 = n) (kt : ¬ x = 0 → ZZ p l e R s m args below meth c G A nL cells slots Q ws lv tgt rest) (kf : x = 0 → ZZ p l e R s m args below meth c G A nL cells slots Q ws lv n rest) : ZZ p l e R s m args below meth c G A nL cells slots Q ws lv pc (.int x :: rest) := by
  subst hn
  exact fun H locs ls hP hD hS hl => lv_if_ne hC.1 hC.2.1 hdg ht (fun h => kt h H locs ls hP hD hS hl) (fun h => kf h H locs ls hP hD hS hl)
theorem z_icmp_ne (hC : Cx p s m args c cc nL own G tys A) {x y : Int32} {off : Int} {tgt : Nat} (hdg : decode cc pc = .ok (.if_icmp .ne off, 3)) (ht : (pc : Int) + off = (tgt : Int)) (hn : pc + 3 = n) (kt : ¬ x = y → ZZ p l e R s m args below meth c G A nL cells slots Q ws lv tgt rest) (kf : x = y → ZZ p l e R s m args below meth c G A nL cells slots Q ws lv n rest) : ZZ p l e R s m args below meth c G A nL cells slots Q ws lv pc (.int y :: .int x :: rest) := by
  subst hn
  exact fun H locs ls hP hD hS hl => lv_icmp_ne hC.1 hC.2.1 hdg ht (fun h => kt h H locs ls hP hD hS hl) (fun h => kf h H locs ls hP hD hS hl)
theorem z_icmp_ne_n (hC : Cx p s m args c cc nL own G tys A) {x y : Int32} {off : Int} {tgt : Nat} (a b : Nat) (hx : x = nI a) (hy : y = nI b) (ha : a < 2 ^ 31) (hb : b < 2 ^ 31) (hdg : decode cc pc = .ok (.if_icmp .ne off, 3)) (ht : (pc : Int) + off = (tgt : Int)) (hn : pc + 3 = n) (kt : ¬ a = b → ZZ p l e R s m args below meth c G A nL cells slots Q ws lv tgt rest) (kf : a = b → ZZ p l e R s m args below meth c G A nL cells slots Q ws lv n rest) : ZZ p l e R s m args below meth c G A nL cells slots Q ws lv pc (.int y :: .int x :: rest) := by
  subst hx; subst hy
  exact z_icmp_ne hC hdg ht hn (fun h => kt (fun z => h ((nI_eq ha hb).mpr z))) (fun h => kf ((nI_eq ha hb).mp h))
theorem z_if_lt (hC : Cx p s m args c cc nL own G tys A) {x : Int32} {off : Int} {tgt : Nat} (hdg : decode cc pc = .ok (.ifCond .lt off, 3)) (ht : (pc : Int) + off = (tgt : Int)) (hn : pc + 3 = n) (kt : x < 0 → ZZ p l e R s m args below meth c G A nL cells slots Q ws lv tgt rest) (kf : ¬ x < 0 → ZZ p l e R s m args below meth c G A nL cells slots Q ws lv n rest) : ZZ p l e R s m args below meth c G A nL cells slots Q ws lv pc (.int x :: rest) := by
  subst hn
  exact fun H locs ls hP hD hS hl => lv_if_lt hC.1 hC.2.1 hdg ht (fun h => kt h H locs ls hP hD hS hl) (fun h => kf h H locs ls hP hD hS hl)
theorem z_icmp_lt (hC : Cx p s m args c cc nL own G tys A) {x y : Int32} {off : Int} {tgt : Nat} (hdg : decode cc pc = .ok (.if_icmp .lt off, 3)) (ht : (pc : Int) + off = (tgt : Int)) (hn : pc + 3 = n) (kt : x < y → ZZ p l e R s m args below meth c G A nL cells slots Q ws lv tgt rest) (kf : ¬ x < y → ZZ p l e R s m args below meth c G A nL cells slots Q ws lv n rest) : ZZ p l e R s m args below meth c G A nL cells slots Q ws lv pc (.int y :: .int x :: rest) := by
  subst hn
  exact fun H locs ls hP hD hS hl => lv_icmp_lt hC.1 hC.2.1 hdg ht (fun h => kt h H locs ls hP hD hS hl) (fun h => kf h H locs ls hP hD hS hl)
theorem z_icmp_lt_n (hC : Cx p s m args c cc nL own G tys A) {x y : Int32} {off : Int} {tgt : Nat} (a b : Nat) (hx : x = nI a) (hy : y = nI b) (ha : a < 2 ^ 31) (hb : b < 2 ^ 31) (hdg : decode cc pc = .ok (.if_icmp .lt off, 3)) (ht : (pc : Int) + off = (tgt : Int)) (hn : pc + 3 = n) (kt : a < b → ZZ p l e R s m args below meth c G A nL cells slots Q ws lv tgt rest) (kf : b ≤ a → ZZ p l e R s m args below meth c G A nL cells slots Q ws lv n rest) : ZZ p l e R s m args below meth c G A nL cells slots Q ws lv pc (.int y :: .int x :: rest) := by
  subst hx; subst hy
  exact z_icmp_lt hC hdg ht hn (fun h => kt ((nI_ltI ha hb).mp h)) (fun h => kf (Nat.not_lt.mp fun z => h ((nI_ltI ha hb).mpr z)))
theorem z_if_ge (hC : Cx p s m args c cc nL own G tys A) {x : Int32} {off : Int} {tgt : Nat} (hdg : decode cc pc = .ok (.ifCond .ge off, 3)) (ht : (pc : Int) + off = (tgt : Int)) (hn : pc + 3 = n) (kt : 0 ≤ x → ZZ p l e R s m args below meth c G A nL cells slots Q ws lv tgt rest) (kf : ¬ 0 ≤ x → ZZ p l e R s m args below meth c G A nL cells slots Q ws lv n rest) : ZZ p l e R s m args below meth c G A nL cells slots Q ws lv pc (.int x :: rest) := by
  subst hn
  exact fun H locs ls hP hD hS hl => lv_if_ge hC.1 hC.2.1 hdg ht (fun h => kt h H locs ls hP hD hS hl) (fun h => kf h H locs ls hP hD hS hl)
theorem z_icmp_ge (hC : Cx p s m args c cc nL own G tys A) {x y : Int32} {off : Int} {tgt : Nat} (hdg : decode cc pc = .ok (.if_icmp .ge off, 3)) (ht : (pc : Int) + off = (tgt : Int)) (hn : pc + 3 = n) (kt : y ≤ x → ZZ p l e R s m args below meth c G A nL cells slots Q ws lv tgt rest) (kf : ¬ y ≤ x → ZZ p l e R s m args below meth c G A nL cells slots Q ws lv n rest) : ZZ p l e R s m args below meth c G A nL cells slots Q ws lv pc (.int y :: .int x :: rest) := by
  subst hn
  exact fun H locs ls hP hD hS hl => lv_icmp_ge hC.1 hC.2.1 hdg ht (fun h => kt h H locs ls hP hD hS hl) (fun h => kf h H locs ls hP hD hS hl)
theorem z_icmp_ge_n (hC : Cx p s m args c cc nL own G tys A) {x y : Int32} {off : Int} {tgt : Nat} (a b : Nat) (hx : x = nI a) (hy : y = nI b) (ha : a < 2 ^ 31) (hb : b < 2 ^ 31) (hdg : decode cc pc = .ok (.if_icmp .ge off, 3)) (ht : (pc : Int) + off = (tgt : Int)) (hn : pc + 3 = n) (kt : b ≤ a → ZZ p l e R s m args below meth c G A nL cells slots Q ws lv tgt rest) (kf : a < b → ZZ p l e R s m args below meth c G A nL cells slots Q ws lv n rest) : ZZ p l e R s m args below meth c G A nL cells slots Q ws lv pc (.int y :: .int x :: rest) := by
  subst hx; subst hy
  exact z_icmp_ge hC hdg ht hn (fun h => kt ((nI_leI hb ha).mp h)) (fun h => kf (Nat.not_le.mp fun z => h ((nI_leI hb ha).mpr z)))
theorem z_if_gt (hC : Cx p s m args c cc nL own G tys A) {x : Int32} {off : Int} {tgt : Nat} (hdg : decode cc pc = .ok (.ifCond .gt off, 3)) (ht : (pc : Int) + off = (tgt : Int)) (hn : pc + 3 = n) (kt : 0 < x → ZZ p l e R s m args below meth c G A nL cells slots Q ws lv tgt rest) (kf : ¬ 0 < x → ZZ p l e R s m args below meth c G A nL cells slots Q ws lv n rest) : ZZ p l e R s m args below meth c G A nL cells slots Q ws lv pc (.int x :: rest) := by
  subst hn
  exact fun H locs ls hP hD hS hl => lv_if_gt hC.1 hC.2.1 hdg ht (fun h => kt h H locs ls hP hD hS hl) (fun h => kf h H locs ls hP hD hS hl)
theorem z_icmp_gt (hC : Cx p s m args c cc nL own G tys A) {x y : Int32} {off : Int} {tgt : Nat} (hdg : decode cc pc = .ok (.if_icmp .gt off, 3)) (ht : (pc : Int) + off = (tgt : Int)) (hn : pc + 3 = n) (kt : y < x → ZZ p l e R s m args below meth c G A nL cells slots Q ws lv tgt rest) (kf : ¬ y < x → ZZ p l e R s m args below meth c G A nL cells slots Q ws lv n rest) : ZZ p l e R s m args below meth c G A nL cells slots Q ws lv pc (.int y :: .int x :: rest) := by
  subst hn
  exact fun H locs ls hP hD hS hl => lv_icmp_gt hC.1 hC.2.1 hdg ht (fun h => kt h H locs ls hP hD hS hl) (fun h => kf h H locs ls hP hD hS hl)
theorem z_icmp_gt_n (hC : Cx p s m args c cc nL own G tys A) {x y : Int32} {off : Int} {tgt : Nat} (a b : Nat) (hx : x = nI a) (hy : y = nI b) (ha : a < 2 ^ 31) (hb : b < 2 ^ 31) (hdg : decode cc pc = .ok (.if_icmp .gt off, 3)) (ht : (pc : Int) + off = (tgt : Int)) (hn : pc + 3 = n) (kt : b < a → ZZ p l e R s m args below meth c G A nL cells slots Q ws lv tgt rest) (kf : a ≤ b → ZZ p l e R s m args below meth c G A nL cells slots Q ws lv n rest) : ZZ p l e R s m args below meth c G A nL cells slots Q ws lv pc (.int y :: .int x :: rest) := by
  subst hx; subst hy
  exact z_icmp_gt hC hdg ht hn (fun h => kt ((nI_ltI hb ha).mp h)) (fun h => kf (Nat.not_lt.mp fun z => h ((nI_ltI hb ha).mpr z)))
theorem z_if_le (hC : Cx p s m args c cc nL own G tys A) {x : Int32} {off : Int} {tgt : Nat} (hdg : decode cc pc = .ok (.ifCond .le off, 3)) (ht : (pc : Int) + off = (tgt : Int)) (hn : pc + 3 = n) (kt : x ≤ 0 → ZZ p l e R s m args below meth c G A nL cells slots Q ws lv tgt rest) (kf : ¬ x ≤ 0 → ZZ p l e R s m args below meth c G A nL cells slots Q ws lv n rest) : ZZ p l e R s m args below meth c G A nL cells slots Q ws lv pc (.int x :: rest) := by
  subst hn
  exact fun H locs ls hP hD hS hl => lv_if_le hC.1 hC.2.1 hdg ht (fun h => kt h H locs ls hP hD hS hl) (fun h => kf h H locs ls hP hD hS hl)
theorem z_icmp_le (hC : Cx p s m args c cc nL own G tys A) {x y : Int32} {off : Int} {tgt : Nat} (hdg : decode cc pc = .ok (.if_icmp .le off, 3)) (ht : (pc : Int) + off = (tgt : Int)) (hn : pc + 3 = n) (kt : x ≤ y → ZZ p l e R s m args below meth c G A nL cells slots Q ws lv tgt rest) (kf : ¬ x ≤ y → ZZ p l e R s m args below meth c G A nL cells slots Q ws lv n rest) : ZZ p l e R s m args below meth c G A nL cells slots Q ws lv pc (.int y :: .int x :: rest) := by
  subst hn
  exact fun H locs ls hP hD hS hl => lv_icmp_le hC.1 hC.2.1 hdg ht (fun h => kt h H locs ls hP hD hS hl) (fun h => kf h H locs ls hP hD hS hl)
theorem z_icmp_le_n (hC : Cx p s m args c cc nL own G tys A) {x y : Int32} {off : Int} {tgt : Nat} (a b : Nat) (hx : x = nI a) (hy : y = nI b) (ha : a < 2 ^ 31) (hb : b < 2 ^ 31) (hdg : decode cc pc = .ok (.if_icmp .le off, 3)) (ht : (pc : Int) + off = (tgt : Int)) (hn : pc + 3 = n) (kt : a ≤ b → ZZ p l e R s m args below meth c G A nL cells slots Q ws lv tgt rest) (kf : b < a → ZZ p l e R s m args below meth c G A nL cells slots Q ws lv n rest) : ZZ p l e R s m args below meth c G A nL cells slots Q ws lv pc (.int y :: .int x :: rest) := by
  subst hx; subst hy
  exact z_icmp_le hC hdg ht hn (fun h => kt ((nI_leI ha hb).mp h)) (fun h => kf (Nat.not_le.mp fun z => h ((nI_leI ha hb).mpr z)))
theorem z_iald (hC : Cx p s m args c cc nL own G tys A) (q0 t0 : Nat) {a : Nat} {cA : ClassId} {N : Nat} {f : Nat → Int32} (j : Nat) {x v : Int32} (ha : ws[q0]? = some (a, .inl (cA, N, .inl f))) (ht : tys[t0]? = some (cA, .int)) (hx : x = nI j) (hj : j < N) (hN : N < 2 ^ 31) (hdg : decode cc pc = .ok (.iaload, 1)) (hv : f j = v) (hn : pc + 1 = n) (k : ZZ p l e R s m args below meth c G A nL cells slots Q ws lv n (.int v :: rest)) : ZZ p l e R s m args below meth c G A nL cells slots Q ws lv pc (.int x :: .ref a :: rest) := by
  subst hn; subst hx; subst hv
  intro H locs ls hP hD hS hl
  refine va_iald hC.1 hC.2.1 hC.2.2.2.2.2.1 hP q0 t0 ha ht (vp_in_nI hj hN) hdg ?_
  rw [nI_clamp (Nat.lt_trans hj hN)]
  exact k H locs ls hP hD hS hl
theorem z_zald (hC : Cx p s m args c cc nL own G tys A) (q0 t0 : Nat) {a : Nat} {cA : ClassId} {N : Nat} {f : Nat → Int32} (j : Nat) {x v : Int32} (ha : ws[q0]? = some (a, .inl (cA, N, .inl f))) (ht : tys[t0]? = some (cA, .boolean)) (hx : x = nI j) (hj : j < N) (hN : N < 2 ^ 31) (hdg : decode cc pc = .ok (.baload, 1)) (hv : f j = v) (hn : pc + 1 = n) (k : ZZ p l e R s m args below meth c G A nL cells slots Q ws lv n (.int v :: rest)) : ZZ p l e R s m args below meth c G A nL cells slots Q ws lv pc (.int x :: .ref a :: rest) := by
  subst hn; subst hx; subst hv
  intro H locs ls hP hD hS hl
  refine va_zald hC.1 hC.2.1 hC.2.2.2.2.2.1 hP q0 t0 ha ht (vp_in_nI hj hN) hdg ?_
  rw [nI_clamp (Nat.lt_trans hj hN)]
  exact k H locs ls hP hD hS hl
theorem z_lald (hC : Cx p s m args c cc nL own G tys A) (q0 t0 : Nat) {a : Nat} {cA : ClassId} {N : Nat} {f : Nat → Int64} (j : Nat) {x : Int32} {v : Int64} (ha : ws[q0]? = some (a, .inl (cA, N, .inr (.inl f)))) (ht : tys[t0]? = some (cA, .long)) (hx : x = nI j) (hj : j < N) (hN : N < 2 ^ 31) (hdg : decode cc pc = .ok (.laload, 1)) (hv : f j = v) (hn : pc + 1 = n) (k : ZZ p l e R s m args below meth c G A nL cells slots Q ws lv n (.long v :: rest)) : ZZ p l e R s m args below meth c G A nL cells slots Q ws lv pc (.int x :: .ref a :: rest) := by
  subst hn; subst hx; subst hv
  intro H locs ls hP hD hS hl
  refine va_lald hC.1 hC.2.1 hC.2.2.2.2.2.1 hP q0 t0 ha ht (vp_in_nI hj hN) hdg ?_
  rw [nI_clamp (Nat.lt_trans hj hN)]
  exact k H locs ls hP hD hS hl
theorem z_iast (hC : Cx p s m args c cc nL own G tys A) (q0 t0 : Nat) {a : Nat} {cA : ClassId} {N : Nat} {f : Nat → Int32} (j : Nat) {x v : Int32} {f' : Nat → Int32} {ws' : va_W} (ha : ws[q0]? = some (a, .inl (cA, N, .inl f))) (ht : tys[t0]? = some (cA, .int)) (hx : x = nI j) (hj : j < N) (hN : N < 2 ^ 31) (hdg : decode cc pc = .ok (.iastore, 1)) (hf : upd f j v = f') (hw : ws.set q0 (a, .inl (cA, N, .inl f')) = ws') (hn : pc + 1 = n) (k : ZZ p l e R s m args below meth c G A nL cells slots Q ws' lv n rest) : ZZ p l e R s m args below meth c G A nL cells slots Q ws lv pc (.int v :: .int x :: .ref a :: rest) := by
  subst hn; subst hx; subst hf; subst hw
  intro H locs ls hP hD hS hl
  refine va_iast hC.1 hC.2.1 hC.2.2.2.2.2.1 hP hD hS q0 t0 ha ht (vp_in_nI hj hN) hdg (fun H1 locs1 hP hD hS => ?_)
  rw [nI_clamp (Nat.lt_trans hj hN)] at hP hD
  exact k H1 locs1 ls hP hD hS hl
theorem z_zast (hC : Cx p s m args c cc nL own G tys A) (q0 t0 : Nat) {a : Nat} {cA : ClassId} {N : Nat} {f : Nat → Int32} (j : Nat) {x v : Int32} {f' : Nat → Int32} {ws' : va_W} (ha : ws[q0]? = some (a, .inl (cA, N, .inl f))) (ht : tys[t0]? = some (cA, .boolean)) (hx : x = nI j) (hj : j < N) (hN : N < 2 ^ 31) (hv : vp_nar .boolean v = v) (hdg : decode cc pc = .ok (.bastore, 1)) (hf : upd f j v = f') (hw : ws.set q0 (a, .inl (cA, N, .inl f')) = ws') (hn : pc + 1 = n) (k : ZZ p l e R s m args below meth c G A nL cells slots Q ws' lv n rest) : ZZ p l e R s m args below meth c G A nL cells slots Q ws lv pc (.int v :: .int x :: .ref a :: rest) := by
  subst hn; subst hx; subst hf; subst hw
  intro H locs ls hP hD hS hl
  refine va_zast hC.1 hC.2.1 hC.2.2.2.2.2.1 hP hD hS q0 t0 ha ht (vp_in_nI hj hN) hdg (fun H1 locs1 hP hD hS => ?_)
  rw [nI_clamp (Nat.lt_trans hj hN), hv] at hP hD
  exact k H1 locs1 ls hP hD hS hl
theorem z_last (hC : Cx p s m args c cc nL own G tys A) (q0 t0 : Nat) {a : Nat} {cA : ClassId} {N : Nat} {f : Nat → Int64} (j : Nat) {x : Int32} {v : Int64} {ws' : va_W} (ha : ws[q0]? = some (a, .inl (cA, N, .inr (.inl f)))) (ht : tys[t0]? = some (cA, .long)) (hx : x = nI j) (hj : j < N) (hN : N < 2 ^ 31) (hdg : decode cc pc = .ok (.lastore, 1)) (hw : ws.set q0 (a, .inl (cA, N, .inr (.inl (vp_updL f j v)))) = ws') (hn : pc + 1 = n) (k : ZZ p l e R s m args below meth c G A nL cells slots Q ws' lv n rest) : ZZ p l e R s m args below meth c G A nL cells slots Q ws lv pc (.long v :: .int x :: .ref a :: rest) := by
  subst hn; subst hx; subst hw
  intro H locs ls hP hD hS hl
  refine va_last hC.1 hC.2.1 hC.2.2.2.2.2.1 hP hD hS q0 t0 ha ht (vp_in_nI hj hN) hdg (fun H1 locs1 hP hD hS => ?_)
  rw [nI_clamp (Nat.lt_trans hj hN)] at hP hD
  exact k H1 locs1 ls hP hD hS hl
theorem z_alen (hC : Cx p s m args c cc nL own G tys A) (q0 t0 : Nat) {a : Nat} {cA : ClassId} {x : vp_A} {ty : FieldType} {v : Int32} (ha : ws[q0]? = some (a, .inl (cA, x))) (ht : tys[t0]? = some (cA, ty)) (hv : Int32.ofNat x.1 = v) (hdg : decode cc pc = .ok (.arraylength, 1)) (hn : pc + 1 = n) (k : ZZ p l e R s m args below meth c G A nL cells slots Q ws lv n (.int v :: rest)) : ZZ p l e R s m args below meth c G A nL cells slots Q ws lv pc (.ref a :: rest) := by
  subst hn
  exact fun H locs ls hP hD hS hl => va_alen hC.1 hC.2.1 hC.2.2.2.2.2.1 hP q0 t0 ha ht hv hdg (k H locs ls hP hD hS hl)
theorem z_get (hC : Cx p s m args c cc nL own G tys A) {C : String} {T : u_T} {N ci index : Nat} (f : Nat) (hin : ∀ w ∈ u_ws C T N, w ∈ zAW) (hc : vwCl[ci]? = some (C, T, N)) (hf : f < N) (hlink : Cond.fieldLink own index (T f).1 (T f).2.1 (T f).2.2.1 ∈ zAW) (q0 : Nat) {a : Nat} {fs : List Value} {v : Value} (he : ws[q0]? = some (a, .inr (ci, fs))) (hv : fs[f]? = some v) (hdg : decode cc pc = .ok (.getfield index, 3)) (hn : pc + 3 = n) (k : ZZ p l e R s m args below meth c G A nL cells slots Q ws lv n (v :: rest)) : ZZ p l e R s m args below meth c G A nL cells slots Q ws lv pc (.ref a :: rest) := by
  subst hn
  exact fun H locs ls hP hD hS hl => va_get hC.1 hC.2.1 hC.2.2.2.2.1 hin hC.2.2.2.1 hC.2.2.2.2.2.1 hP q0 he hc f hf (hC.2.2.2.2.1 _ hlink) (fun _ h9 => h9) hv hdg (k H locs ls hP hD hS hl)
theorem z_put (hC : Cx p s m args c cc nL own G tys A) {C : String} {T : u_T} {N ci index : Nat} (f : Nat) (hin : ∀ w ∈ u_ws C T N, w ∈ zAW) (ty0 : Nat → FieldType) (hty : ∀ k, k < N → parseFieldDescriptor (T k).2.2.1 = some (ty0 k)) (hnm : ∀ a, a < N → ∀ b, b < N → a ≠ b → (T a).2.1 ≠ (T b).2.1) (hc : vwCl[ci]? = some (C, T, N)) (hf : f < N) (hlink : Cond.fieldLink own index (T f).1 (T f).2.1 (T f).2.2.1 ∈ zAW) (hfin : (T f).2.2.2 = false) (hd : parseFieldDescriptor (T f).2.2.1 = some .int) (q0 : Nat) {a : Nat} {fs : List Value} {v : Int32} {ws' : va_W} (he : ws[q0]? = some (a, .inr (ci, fs))) (hl9 : f < fs.length) (hdg : decode cc pc = .ok (.putfield index, 3)) (hw : ws.set q0 (a, .inr (ci, fs.set f (.int v))) = ws') (hn : pc + 3 = n) (k : ZZ p l e R s m args below meth c G A nL cells slots Q ws' lv n rest) : ZZ p l e R s m args below meth c G A nL cells slots Q ws lv pc (.int v :: .ref a :: rest) := by
  subst hn; subst hw
  exact fun H locs ls hP hD hS hl => va_put (ty := .int) hC.1 hC.2.1 hC.2.2.2.2.1 hin ty0 hty hnm hC.2.2.2.1 hC.2.2.2.2.2.1 hP hD hS q0 he hc f hf (hC.2.2.2.2.1 _ hlink) (fun _ h9 => h9) hfin hd rfl rfl hl9 hdg (fun H1 locs1 hP hD hS => k H1 locs1 ls hP hD hS hl)
theorem z_putF (hC : Cx p s m args c cc nL own G tys A) {C : String} {T : u_T} {N ci index : Nat} (f : Nat) (hin : ∀ w ∈ u_ws C T N, w ∈ zAW) (ty0 : Nat → FieldType) (hty : ∀ k, k < N → parseFieldDescriptor (T k).2.2.1 = some (ty0 k)) (hnm : ∀ a, a < N → ∀ b, b < N → a ≠ b → (T a).2.1 ≠ (T b).2.1) (hc : vwCl[ci]? = some (C, T, N)) (hf : f < N) (hlink : Cond.fieldLink own index (T f).1 (T f).2.1 (T f).2.2.1 ∈ zAW) (hfin : (T f).2.2.2 = true) (hin2 : meth.name = "<init>") (hdecl : (T f).1 = own) {ty : FieldType} (hd : parseFieldDescriptor (T f).2.2.1 = some ty) (q0 : Nat) {a : Nat} {fs : List Value} {v : Value} (hnr : narrow ty v = v) (hfit : fits ty v = true) {ws' : va_W} (he : ws[q0]? = some (a, .inr (ci, fs))) (hl9 : f < fs.length) (hdg : decode cc pc = .ok (.putfield index, 3)) (hw : ws.set q0 (a, .inr (ci, fs.set f v)) = ws') (hn : pc + 3 = n) (k : ZZ p l e R s m args below meth c G A nL cells slots Q ws' lv n rest) : ZZ p l e R s m args below meth c G A nL cells slots Q ws lv pc (v :: .ref a :: rest) := by
  subst hn; subst hw
  exact fun H locs ls hP hD hS hl => va_putF (ty := ty) hC.1 hC.2.1 hC.2.2.2.2.1 hin ty0 hty hnm hC.2.2.2.1 hC.2.2.2.2.2.1 hP hD hS q0 he hc f hf (hC.2.2.2.2.1 _ hlink) (fun _ h9 => h9) hfin hin2 hdecl hd hnr hfit hl9 hdg (fun H1 locs1 hP hD hS => k H1 locs1 ls hP hD hS hl)
theorem z_putq (hC : Cx p s m args c cc nL own G tys A) {C : String} {T : u_T} {N ci index : Nat} (f : Nat) (hin : ∀ w ∈ u_ws C T N, w ∈ zAW) (ty0 : Nat → FieldType) (hty : ∀ k, k < N → parseFieldDescriptor (T k).2.2.1 = some (ty0 k)) (hnm : ∀ a, a < N → ∀ b, b < N → a ≠ b → (T a).2.1 ≠ (T b).2.1) (hc : vwCl[ci]? = some (C, T, N)) (hf : f < N) (hlink : Cond.fieldLink own index (T f).1 (T f).2.1 (T f).2.2.1 ∈ zAW) (hfin : (T f).2.2.2 = false) {ty : FieldType} (hd : parseFieldDescriptor (T f).2.2.1 = some ty) (q0 : Nat) {a : Nat} {fs : List Value} {v : Nat} (hnr : narrow ty (.ref v) = .ref v) (hfit : fits ty (.ref v) = true) {ws' : va_W} (he : ws[q0]? = some (a, .inr (ci, fs))) (hl9 : f < fs.length) (hdg : decode cc pc = .ok (.putfield index, 3)) (hw : ws.set q0 (a, .inr (ci, fs.set f (.ref v))) = ws') (hn : pc + 3 = n) (k : ZZ p l e R s m args below meth c G A nL cells slots Q ws' lv n rest) : ZZ p l e R s m args below meth c G A nL cells slots Q ws lv pc (.ref v :: .ref a :: rest) := by
  subst hn; subst hw
  exact fun H locs ls hP hD hS hl => va_put (ty := ty) hC.1 hC.2.1 hC.2.2.2.2.1 hin ty0 hty hnm hC.2.2.2.1 hC.2.2.2.2.2.1 hP hD hS q0 he hc f hf (hC.2.2.2.2.1 _ hlink) (fun _ h9 => h9) hfin hd hnr hfit hl9 hdg (fun H1 locs1 hP hD hS => k H1 locs1 ls hP hD hS hl)
theorem z_mabs (hC : Cx p s m args c cc nL own G tys A) {index : Nat} (hlink : Cond.methodLink own index Lib.Math.abs.name ∈ zAW) (hstat : Cond.static Lib.Math.abs.name ∈ zAW) (hini : Cond.initialized "java/lang/Math" ∈ zAW) (hcode : Cond.code Lib.Math.abs.name Lib.Math.abs.code 1 (some .int) ∈ zAW) (hfr : 1 ≤ R.frames) (hlo : (rest.map fun v => v.category).sum + 13 ≤ R.locals) (hc : cells ≤ R.cells) (hs : slots ≤ R.slots) {x v : Int32} (hdg : decode cc pc = .ok (.invokestatic index, 3)) (hv : (if 0 ≤ x then x else 0 - x) = v) (hn : pc + 3 = n) (k : ZZ p l e R s m args below meth c G A nL cells slots Q ws lv n (.int v :: rest)) : ZZ p l e R s m args below meth c G A nL cells slots Q ws lv pc (.int x :: rest) := by
  subst hn; subst hv
  exact fun H locs ls hP hD hS hl => va_mabs hC.1 hC.2.1 (hC.2.2.1.trans hl.1.symm) hC.2.2.2.1 (hC.2.2.2.2.1 _ hlink) (hC.2.2.2.2.1 _ hstat) (hC.2.2.2.2.1 _ hini) (hC.2.2.2.2.1 _ hcode) hfr hlo hc hs hdg (k H locs ls hP hD hS hl)
theorem z_mmax (hC : Cx p s m args c cc nL own G tys A) {index : Nat} (hlink : Cond.methodLink own index Lib.Math.max.name ∈ zAW) (hstat : Cond.static Lib.Math.max.name ∈ zAW) (hini : Cond.initialized "java/lang/Math" ∈ zAW) (hcode : Cond.code Lib.Math.max.name Lib.Math.max.code 2 (some .int) ∈ zAW) (hfr : 1 ≤ R.frames) (hlo : (rest.map fun v => v.category).sum + 13 ≤ R.locals) (hc : cells ≤ R.cells) (hs : slots ≤ R.slots) {x y v : Int32} (hdg : decode cc pc = .ok (.invokestatic index, 3)) (hv : (if x < y then y else x) = v) (hn : pc + 3 = n) (k : ZZ p l e R s m args below meth c G A nL cells slots Q ws lv n (.int v :: rest)) : ZZ p l e R s m args below meth c G A nL cells slots Q ws lv pc (.int y :: .int x :: rest) := by
  subst hn; subst hv
  exact fun H locs ls hP hD hS hl => va_mmax hC.1 hC.2.1 (hC.2.2.1.trans hl.1.symm) hC.2.2.2.1 (hC.2.2.2.2.1 _ hlink) (hC.2.2.2.2.1 _ hstat) (hC.2.2.2.2.1 _ hini) (hC.2.2.2.2.1 _ hcode) hfr hlo hc hs hdg (k H locs ls hP hD hS hl)
theorem z_copy (hC : Cx p s m args c cc nL own G tys A) {index : Nat} (hlink : Cond.methodLink own index arraycopyName ∈ zAW) (hnat : Cond.native arraycopyName ∈ zAW) (hstat : Cond.static arraycopyName ∈ zAW) (hini : Cond.initialized "java/lang/System" ∈ zAW) (q0 q1 t0 t1 : Nat) {a0 a : Nat} {cA : ClassId} {f g g' : Nat → Int32} {sp dp z : Int32} {ws' : va_W} (ha0 : ws[q0]? = some (a0, .inl (cA, 25, .inl f))) (ha1 : ws[q1]? = some (a, .inl (cA, 25, .inl g))) (ht0 : tys[t0]? = some (cA, .int)) (ht1 : tys[t1]? = some (cA, .int)) (hsp : sp = nI 0) (hdp : dp = nI 0) (hz : z = nI 25) (hfr : 1 ≤ R.frames) (hlo : (rest.map fun v => v.category).sum + (nativeFrameWords "java/lang/System" "arraycopy" 5 + 11) ≤ R.locals) (hdg : decode cc pc = .ok (.invokestatic index, 3)) (hg : va_cpy f g 0 0 25 = g') (hw : ws.set q1 (a, .inl (cA, 25, .inl g')) = ws') (hn : pc + 3 = n) (k : ZZ p l e R s m args below meth c G A nL cells slots Q ws' lv n rest) : ZZ p l e R s m args below meth c G A nL cells slots Q ws lv pc (.int z :: .int dp :: .ref a :: .int sp :: .ref a0 :: rest) := by
  subst hn; subst hsp; subst hdp; subst hz; subst hg; subst hw
  have e0 : (nI 0).toNatClampNeg = 0 := nI_clamp (by decide)
  have e1 : (nI 25).toNatClampNeg = 25 := nI_clamp (by decide)
  intro H locs ls hP hD hS hl
  refine va_copyi hC.1 hC.2.1 (hC.2.2.1.trans hl.1.symm) hC.2.2.2.1 (hC.2.2.2.2.1 _ hlink) (hC.2.2.2.2.1 _ hnat) (hC.2.2.2.2.1 _ hstat) (hC.2.2.2.2.1 _ hini) hC.2.2.2.2.2.1 hP hD hS q0 q1 t0 t1 ha0 ha1 ht0 ht1 rfl (by decide) (by decide) (by decide) (by rw [e0, e1]; decide) (by rw [e0, e1]; decide) (fun _ _ => rfl) hfr hlo hdg (fun H1 locs1 hP hD hS => ?_)
  rw [e0, e1] at hP hD
  exact k H1 locs1 ls hP hD hS hl
/-- fewer or reordered cells, locals; more room -/
theorem z_ws (is : List Nat) {ws' : va_W} (hnd : va_nd is = true) (h : is.map (fun i => ws[i]?) = ws'.map some) {st : List Value} (k : ZZ p l e R s m args below meth c G A nL cells slots Q ws' lv pc st) : ZZ p l e R s m args below meth c G A nL cells slots Q ws lv pc st :=
  fun H locs ls hP hD hS hl => k H locs ls (wmap_P hP h) (hD.sub is hnd h) hS hl
theorem z_lv (ks : List Nat) {lv' : List (Nat × Value)} (h : lv_pick lv ks = lv') {st : List Value} (k : ZZ p l e R s m args below meth c G A nL cells slots Q ws lv' pc st) : ZZ p l e R s m args below meth c G A nL cells slots Q ws lv pc st :=
  fun H locs ls hP hD hS hl => k H locs ls hP hD hS (lv_sub hl ks h)
theorem z_weq {ws' : va_W} (h : ws = ws') {st : List Value} (k : ZZ p l e R s m args below meth c G A nL cells slots Q ws' lv pc st) : ZZ p l e R s m args below meth c G A nL cells slots Q ws lv pc st := h ▸ k
theorem z_leq {lv' : List (Nat × Value)} (h : lv = lv') {st : List Value} (k : ZZ p l e R s m args below meth c G A nL cells slots Q ws lv' pc st) : ZZ p l e R s m args below meth c G A nL cells slots Q ws lv pc st := h ▸ k
theorem z_seq {st st' : List Value} (h : st = st') (k : ZZ p l e R s m args below meth c G A nL cells slots Q ws lv pc st') : ZZ p l e R s m args below meth c G A nL cells slots Q ws lv pc st := h ▸ k
theorem z_top {x y : Int32} (h : x = y) (k : ZZ p l e R s m args below meth c G A nL cells slots Q ws lv pc (.int y :: rest)) : ZZ p l e R s m args below meth c G A nL cells slots Q ws lv pc (.int x :: rest) := h ▸ k
/-- a loop with a counter that goes up to N -/
theorem z_loop (N : Nat) (i0 : Nat) (f : Nat → va_W) (g : Nat → List (Nat × Value)) (hi0 : i0 ≤ N) (hw : ws = f i0) (hl : lv = g i0) {st : List Value} (step : ∀ i, i0 ≤ i → i ≤ N → (∀ j, i < j → j ≤ N → ZZ p l e R s m args below meth c G A nL cells slots Q (f j) (g j) pc st) → ZZ p l e R s m args below meth c G A nL cells slots Q (f i) (g i) pc st) : ZZ p l e R s m args below meth c G A nL cells slots Q ws lv pc st := by
  subst hw; subst hl
  have key : ∀ d i, N - i = d → i0 ≤ i → i ≤ N → ZZ p l e R s m args below meth c G A nL cells slots Q (f i) (g i) pc st := by
    intro d
    induction d using Nat.strongRecOn with
    | ind d ih =>
      intro i hd hi1 hi
      exact step i hi1 hi (fun j h1 h2 => ih (N - j) (by omega) j rfl (by omega) h2)
  exact key _ i0 rfl (Nat.le_refl _) hi0
/-- the same, with more that a turn changes (u), and room that grows -/
theorem z_loopS {σ : Type} (N : Nat) (i0 : Nat) (I : Nat → σ → Prop) (f : Nat → σ → va_W) (g : Nat → σ → List (Nat × Value)) (kc ks : Nat → Nat) (u0 : σ) (hi0 : i0 ≤ N) (hI : I i0 u0) (hw : ws = f i0 u0) (hl : lv = g i0 u0) (hkc : cells ≤ kc i0) (hks : slots ≤ ks i0) {st : List Value} (step : ∀ i u, i0 ≤ i → i ≤ N → I i u → (∀ j u', i < j → j ≤ N → I j u' → ZZ p l e R s m args below meth c G A nL (kc j) (ks j) Q (f j u') (g j u') pc st) → ZZ p l e R s m args below meth c G A nL (kc i) (ks i) Q (f i u) (g i u) pc st) : ZZ p l e R s m args below meth c G A nL cells slots Q ws lv pc st := by
  subst hw; subst hl
  have key : ∀ d i u, N - i = d → i0 ≤ i → i ≤ N → I i u → ZZ p l e R s m args below meth c G A nL (kc i) (ks i) Q (f i u) (g i u) pc st := by
    intro d
    induction d using Nat.strongRecOn with
    | ind d ih =>
      intro i u hd hi1 hi hu
      exact step i u hi1 hi hu (fun j u' h1 h2 h3 => ih (N - j) (by omega) j u' rfl (by omega) h2 h3)
  exact fun H locs ls hP hD hS hl => W.widen hkc hks (key _ i0 u0 rfl (Nat.le_refl _) hi0 hI H locs ls hP hD hS hl)
theorem z_widen {k1 k2 : Nat} (h1 : cells ≤ k1) (h2 : slots ≤ k2) {st : List Value} (k : ZZ p l e R s m args below meth c G A nL k1 k2 Q ws lv pc st) : ZZ p l e R s m args below meth c G A nL cells slots Q ws lv pc st :=
  fun H locs ls hP hD hS hl => W.widen h1 h2 (k H locs ls hP hD hS hl)
theorem z_ldcw (hC : Cx p s m args c cc nL own G tys A) {index : Nat} {v : Int32} (hw : Cond.constant own index v ∈ zAW) (hdg : decode cc pc = .ok (.ldc_w index, 3)) (hn : pc + 3 = n) (k : ZZ p l e R s m args below meth c G A nL cells slots Q ws lv n (.int v :: rest)) : ZZ p l e R s m args below meth c G A nL cells slots Q ws lv pc rest := by
  subst hn
  exact fun H locs ls hP hD hS hl => lv_ldcw hC.1 hC.2.1 hC.2.2.2.1 (hC.2.2.2.2.1 _ hw) hdg (k H locs ls hP hD hS hl)
theorem z_ldcl (hC : Cx p s m args c cc nL own G tys A) {index : Nat} {v : Int64} (hw : Cond.constantLong own index v ∈ zAW) (hdg : decode cc pc = .ok (.ldc2_w index, 3)) (hn : pc + 3 = n) (k : ZZ p l e R s m args below meth c G A nL cells slots Q ws lv n (.long v :: rest)) : ZZ p l e R s m args below meth c G A nL cells slots Q ws lv pc rest := by
  subst hn
  exact fun H locs ls hP hD hS hl => lv_ldc2 hC.1 hC.2.1 hC.2.2.2.1 (hC.2.2.2.2.1 _ hw) hdg (k H locs ls hP hD hS hl)
end ZR
theorem z_iret {p : Program} {l : Launch} {e : Env} {R : Room} {s : State} {m : MethodId} {args : Array Value} {below : List Frame} {meth : Method} {c : Code} {cc : ByteArray} {nL : Nat} {own : String} {G : va_G} {tys : List (ClassId × FieldType)} {W0 : va_W} {cells slots : Nat} {ws : va_W} {lv : List (Nat × Value)} {pc : Nat} {S : Type} {post : Int32 → S → Prop} {W1 : S → va_W} {v : Int32} {mc ms : Nat} (hC : Cx p s m args c cc nL own G tys (va_A W0 s.heap.size)) (hr : meth.sig.returnType = some .int) (hlocks : meth.locks = false) (u : S) (hp : post v u) (hw : ws = W1 u) (hdg : decode cc pc = .ok (.ireturn, 1)) (h1 : cells ≤ mc) (h2 : slots ≤ ms) : ZZ p l e R s m args below meth c G (va_A W0 s.heap.size) nL cells slots (MQ below (va_Qi post (fun u => cE G tys (va_A W0 s.heap.size) (W1 u)) (va_A W0 s.heap.size)) args s mc ms (va_A W0 s.heap.size)) ws lv pc [.int v] := by
  subst hw
  intro H locs ls hP hD hS hl
  refine W.widen h1 h2 ?_
  exact W.iret hC.1 hC.2.1 hr (fun t ht hW => ⟨⟨v, u, rfl, hp, by rw [ht]; exact hP, va_K.moved hW.alike hC.2.2.2.2.2.1, hD⟩, hS.F ht⟩) hS.2.2 hdg hlocks
theorem z_lret {p : Program} {l : Launch} {e : Env} {R : Room} {s : State} {m : MethodId} {args : Array Value} {below : List Frame} {meth : Method} {c : Code} {cc : ByteArray} {nL : Nat} {own : String} {G : va_G} {tys : List (ClassId × FieldType)} {W0 : va_W} {cells slots : Nat} {ws : va_W} {lv : List (Nat × Value)} {pc : Nat} {S : Type} {post : Int64 → S → Prop} {W1 : S → va_W} {v : Int64} {mc ms : Nat} (hC : Cx p s m args c cc nL own G tys (va_A W0 s.heap.size)) (hr : meth.sig.returnType = some .long) (hlocks : meth.locks = false) (u : S) (hp : post v u) (hw : ws = W1 u) (hdg : decode cc pc = .ok (.lreturn, 1)) (h1 : cells ≤ mc) (h2 : slots ≤ ms) : ZZ p l e R s m args below meth c G (va_A W0 s.heap.size) nL cells slots (MQ below (va_Ql post (fun u => cE G tys (va_A W0 s.heap.size) (W1 u)) (va_A W0 s.heap.size)) args s mc ms (va_A W0 s.heap.size)) ws lv pc [.long v] := by
  subst hw
  intro H locs ls hP hD hS hl
  refine W.widen h1 h2 ?_
  exact W.lret hC.1 hC.2.1 hr (fun t ht hW => ⟨⟨v, u, rfl, hp, by rw [ht]; exact hP, va_K.moved hW.alike hC.2.2.2.2.2.1, hD⟩, hS.F ht⟩) hS.2.2 hdg hlocks
theorem z_dret {p : Program} {l : Launch} {e : Env} {R : Room} {s : State} {m : MethodId} {args : Array Value} {below : List Frame} {meth : Method} {c : Code} {cc : ByteArray} {nL : Nat} {own : String} {G : va_G} {tys : List (ClassId × FieldType)} {W0 : va_W} {cells slots : Nat} {ws : va_W} {lv : List (Nat × Value)} {pc : Nat} {S : Type} {post : UInt64 → S → Prop} {W1 : S → va_W} {v : UInt64} {mc ms : Nat} (hC : Cx p s m args c cc nL own G tys (va_A W0 s.heap.size)) (hr : meth.sig.returnType = some .double) (hlocks : meth.locks = false) (u : S) (hp : post v u) (hw : ws = W1 u) (hdg : decode cc pc = .ok (.dreturn, 1)) (h1 : cells ≤ mc) (h2 : slots ≤ ms) : ZZ p l e R s m args below meth c G (va_A W0 s.heap.size) nL cells slots (MQ below (va_Qd post (fun u => cE G tys (va_A W0 s.heap.size) (W1 u)) (va_A W0 s.heap.size)) args s mc ms (va_A W0 s.heap.size)) ws lv pc [.double v] := by
  subst hw
  intro H locs ls hP hD hS hl
  refine W.widen h1 h2 ?_
  exact W.dret hC.1 hC.2.1 hr (fun t ht hW => ⟨⟨v, u, rfl, hp, by rw [ht]; exact hP, va_K.moved hW.alike hC.2.2.2.2.2.1, hD⟩, hS.F ht⟩) hS.2.2 hdg hlocks
theorem z_zret {p : Program} {l : Launch} {e : Env} {R : Room} {s : State} {m : MethodId} {args : Array Value} {below : List Frame} {meth : Method} {c : Code} {cc : ByteArray} {nL : Nat} {own : String} {G : va_G} {tys : List (ClassId × FieldType)} {W0 : va_W} {cells slots : Nat} {ws : va_W} {lv : List (Nat × Value)} {pc : Nat} {S : Type} {post : Int32 → S → Prop} {W1 : S → va_W} {v : Int32} {mc ms : Nat} (hC : Cx p s m args c cc nL own G tys (va_A W0 s.heap.size)) (hr : meth.sig.returnType = some .boolean) (hlocks : meth.locks = false) (u : S) (hp : narrow .boolean (.int v) = .int v ∧ post v u) (hw : ws = W1 u) (hdg : decode cc pc = .ok (.ireturn, 1)) (h1 : cells ≤ mc) (h2 : slots ≤ ms) : ZZ p l e R s m args below meth c G (va_A W0 s.heap.size) nL cells slots (MQ below (va_Qi post (fun u => cE G tys (va_A W0 s.heap.size) (W1 u)) (va_A W0 s.heap.size)) args s mc ms (va_A W0 s.heap.size)) ws lv pc [.int v] := by
  subst hw
  intro H locs ls hP hD hS hl
  refine W.widen h1 h2 ?_
  exact W.zret hC.1 hC.2.1 hr hp.1 (fun t ht hW => ⟨⟨v, u, rfl, hp.2, by rw [ht]; exact hP, va_K.moved hW.alike hC.2.2.2.2.2.1, hD⟩, hS.F ht⟩) hS.2.2 hdg hlocks
theorem z_vret {p : Program} {l : Launch} {e : Env} {R : Room} {s : State} {m : MethodId} {args : Array Value} {below : List Frame} {meth : Method} {c : Code} {cc : ByteArray} {nL : Nat} {own : String} {G : va_G} {tys : List (ClassId × FieldType)} {W0 : va_W} {cells slots : Nat} {ws : va_W} {lv : List (Nat × Value)} {pc : Nat} {S : Type} {post : S → Prop} {W1 : S → va_W} {mc ms : Nat} (hC : Cx p s m args c cc nL own G tys (va_A W0 s.heap.size)) (hr : meth.sig.returnType = none) (hlocks : meth.locks = false) (u : S) (hp : post u) (hw : ws = W1 u) (hdg : decode cc pc = .ok (.return_, 1)) (h1 : cells ≤ mc) (h2 : slots ≤ ms) : ZZ p l e R s m args below meth c G (va_A W0 s.heap.size) nL cells slots (MQ below (va_Qv post (fun u => cE G tys (va_A W0 s.heap.size) (W1 u)) (va_A W0 s.heap.size)) args s mc ms (va_A W0 s.heap.size)) ws lv pc [] := by
  subst hw
  intro H locs ls hP hD hS hl
  refine W.widen h1 h2 ?_
  exact W.vret hC.1 hC.2.1 hr (fun t ht hW => ⟨⟨u, rfl, hp, by rw [ht]; exact hP, va_K.moved hW.alike hC.2.2.2.2.2.1, hD⟩, hS.F ht⟩) hS.2.2 hdg hlocks
theorem MI_of {S : Type} {l : Launch} {y : MethodName} {cy : ByteArray} {nl fr lo : Nat} {G : va_G} {tys : List (ClassId × FieldType)} {av : List Value} {W0 : va_W} {post : Int32 → S → Prop} {W1 : S → va_W} {mc ms : Nat} (hy : plainName y.cls = true) (hnl : (lg_sl av).length ≤ nl) (lv : List (Nat × Value)) (hlv : lv_args 0 av = lv)
    (body : ∀ (p : Program) (e : Env) (s : State) (m : MethodId) (below : List Frame) (meth : Method) (c : Code), Cx p s m av.toArray c cy nl y.cls G tys (va_A W0 s.heap.size) → meth.sig.returnType = some .int → meth.locks = false → meth.name = y.name →
      ZZ p l e { frames := fr, cells := mc, slots := ms, locals := lo } s m av.toArray below meth c G (va_A W0 s.heap.size) nl 0 0 (MQ below (va_Qi post (fun u => cE G tys (va_A W0 s.heap.size) (W1 u)) (va_A W0 s.heap.size)) av.toArray s mc ms (va_A W0 s.heap.size)) W0 lv 0 []) : MI S l y cy nl fr lo G tys av W0 post W1 mc ms := by
  intro sz
  refine Met.ofW (cc := cy) (maxL := nl) (ret := some .int) hy rfl ?_
  intro p e s m args below meth c s₁ B hml hv
  obtain ⟨rfl, hsz, hP, hK, hD0, hN0, hT0⟩ := hv
  subst hsz
  have hts := atoms_spec (ws := Cond.code y cy nl (some .int) :: zAW) B.pre
  have hl := lv_entry av (n := nl) hnl
  rw [lg_entry_eq]
  exact body p e s m below meth c ⟨B.exec, B.bytes, hml, findClass_of_methodNamed B.named, fun w h => hts w (List.mem_cons_of_mem _ h), hK, fun q h => Or.inr h, hN0, hT0⟩ B.returns B.notSynchronized (name_of_methodNamed B.named B.method).1 s.heap [] _ hP hD0.self va_S.rf (hlv ▸ hl)
theorem MB_of {S : Type} {l : Launch} {y : MethodName} {cy : ByteArray} {nl fr lo : Nat} {G : va_G} {tys : List (ClassId × FieldType)} {av : List Value} {W0 : va_W} {post : Int32 → S → Prop} {W1 : S → va_W} {mc ms : Nat} (hy : plainName y.cls = true) (hnl : (lg_sl av).length ≤ nl) (lv : List (Nat × Value)) (hlv : lv_args 0 av = lv)
    (body : ∀ (p : Program) (e : Env) (s : State) (m : MethodId) (below : List Frame) (meth : Method) (c : Code), Cx p s m av.toArray c cy nl y.cls G tys (va_A W0 s.heap.size) → meth.sig.returnType = some .boolean → meth.locks = false → meth.name = y.name →
      ZZ p l e { frames := fr, cells := mc, slots := ms, locals := lo } s m av.toArray below meth c G (va_A W0 s.heap.size) nl 0 0 (MQ below (va_Qi post (fun u => cE G tys (va_A W0 s.heap.size) (W1 u)) (va_A W0 s.heap.size)) av.toArray s mc ms (va_A W0 s.heap.size)) W0 lv 0 []) : MB S l y cy nl fr lo G tys av W0 post W1 mc ms := by
  intro sz
  refine Met.ofW (cc := cy) (maxL := nl) (ret := some .boolean) hy rfl ?_
  intro p e s m args below meth c s₁ B hml hv
  obtain ⟨rfl, hsz, hP, hK, hD0, hN0, hT0⟩ := hv
  subst hsz
  have hts := atoms_spec (ws := Cond.code y cy nl (some .boolean) :: zAW) B.pre
  have hl := lv_entry av (n := nl) hnl
  rw [lg_entry_eq]
  exact body p e s m below meth c ⟨B.exec, B.bytes, hml, findClass_of_methodNamed B.named, fun w h => hts w (List.mem_cons_of_mem _ h), hK, fun q h => Or.inr h, hN0, hT0⟩ B.returns B.notSynchronized (name_of_methodNamed B.named B.method).1 s.heap [] _ hP hD0.self va_S.rf (hlv ▸ hl)
theorem ML_of {S : Type} {l : Launch} {y : MethodName} {cy : ByteArray} {nl fr lo : Nat} {G : va_G} {tys : List (ClassId × FieldType)} {av : List Value} {W0 : va_W} {post : Int64 → S → Prop} {W1 : S → va_W} {mc ms : Nat} (hy : plainName y.cls = true) (hnl : (lg_sl av).length ≤ nl) (lv : List (Nat × Value)) (hlv : lv_args 0 av = lv)
    (body : ∀ (p : Program) (e : Env) (s : State) (m : MethodId) (below : List Frame) (meth : Method) (c : Code), Cx p s m av.toArray c cy nl y.cls G tys (va_A W0 s.heap.size) → meth.sig.returnType = some .long → meth.locks = false → meth.name = y.name →
      ZZ p l e { frames := fr, cells := mc, slots := ms, locals := lo } s m av.toArray below meth c G (va_A W0 s.heap.size) nl 0 0 (MQ below (va_Ql post (fun u => cE G tys (va_A W0 s.heap.size) (W1 u)) (va_A W0 s.heap.size)) av.toArray s mc ms (va_A W0 s.heap.size)) W0 lv 0 []) : ML S l y cy nl fr lo G tys av W0 post W1 mc ms := by
  intro sz
  refine Met.ofW (cc := cy) (maxL := nl) (ret := some .long) hy rfl ?_
  intro p e s m args below meth c s₁ B hml hv
  obtain ⟨rfl, hsz, hP, hK, hD0, hN0, hT0⟩ := hv
  subst hsz
  have hts := atoms_spec (ws := Cond.code y cy nl (some .long) :: zAW) B.pre
  have hl := lv_entry av (n := nl) hnl
  rw [lg_entry_eq]
  exact body p e s m below meth c ⟨B.exec, B.bytes, hml, findClass_of_methodNamed B.named, fun w h => hts w (List.mem_cons_of_mem _ h), hK, fun q h => Or.inr h, hN0, hT0⟩ B.returns B.notSynchronized (name_of_methodNamed B.named B.method).1 s.heap [] _ hP hD0.self va_S.rf (hlv ▸ hl)
theorem MD_of {S : Type} {l : Launch} {y : MethodName} {cy : ByteArray} {nl fr lo : Nat} {G : va_G} {tys : List (ClassId × FieldType)} {av : List Value} {W0 : va_W} {post : UInt64 → S → Prop} {W1 : S → va_W} {mc ms : Nat} (hy : plainName y.cls = true) (hnl : (lg_sl av).length ≤ nl) (lv : List (Nat × Value)) (hlv : lv_args 0 av = lv)
    (body : ∀ (p : Program) (e : Env) (s : State) (m : MethodId) (below : List Frame) (meth : Method) (c : Code), Cx p s m av.toArray c cy nl y.cls G tys (va_A W0 s.heap.size) → meth.sig.returnType = some .double → meth.locks = false → meth.name = y.name →
      ZZ p l e { frames := fr, cells := mc, slots := ms, locals := lo } s m av.toArray below meth c G (va_A W0 s.heap.size) nl 0 0 (MQ below (va_Qd post (fun u => cE G tys (va_A W0 s.heap.size) (W1 u)) (va_A W0 s.heap.size)) av.toArray s mc ms (va_A W0 s.heap.size)) W0 lv 0 []) : MD S l y cy nl fr lo G tys av W0 post W1 mc ms := by
  intro sz
  refine Met.ofW (cc := cy) (maxL := nl) (ret := some .double) hy rfl ?_
  intro p e s m args below meth c s₁ B hml hv
  obtain ⟨rfl, hsz, hP, hK, hD0, hN0, hT0⟩ := hv
  subst hsz
  have hts := atoms_spec (ws := Cond.code y cy nl (some .double) :: zAW) B.pre
  have hl := lv_entry av (n := nl) hnl
  rw [lg_entry_eq]
  exact body p e s m below meth c ⟨B.exec, B.bytes, hml, findClass_of_methodNamed B.named, fun w h => hts w (List.mem_cons_of_mem _ h), hK, fun q h => Or.inr h, hN0, hT0⟩ B.returns B.notSynchronized (name_of_methodNamed B.named B.method).1 s.heap [] _ hP hD0.self va_S.rf (hlv ▸ hl)
theorem MV_of {S : Type} {l : Launch} {y : MethodName} {cy : ByteArray} {nl fr lo : Nat} {G : va_G} {tys : List (ClassId × FieldType)} {av : List Value} {W0 : va_W} {post : S → Prop} {W1 : S → va_W} {mc ms : Nat} (hy : plainName y.cls = true) (hnl : (lg_sl av).length ≤ nl) (lv : List (Nat × Value)) (hlv : lv_args 0 av = lv)
    (body : ∀ (p : Program) (e : Env) (s : State) (m : MethodId) (below : List Frame) (meth : Method) (c : Code), Cx p s m av.toArray c cy nl y.cls G tys (va_A W0 s.heap.size) → meth.sig.returnType = none → meth.locks = false → meth.name = y.name →
      ZZ p l e { frames := fr, cells := mc, slots := ms, locals := lo } s m av.toArray below meth c G (va_A W0 s.heap.size) nl 0 0 (MQ below (va_Qv post (fun u => cE G tys (va_A W0 s.heap.size) (W1 u)) (va_A W0 s.heap.size)) av.toArray s mc ms (va_A W0 s.heap.size)) W0 lv 0 []) : MV S l y cy nl fr lo G tys av W0 post W1 mc ms := by
  intro sz
  refine Met.ofW (cc := cy) (maxL := nl) (ret := none) hy rfl ?_
  intro p e s m args below meth c s₁ B hml hv
  obtain ⟨rfl, hsz, hP, hK, hD0, hN0, hT0⟩ := hv
  subst hsz
  have hts := atoms_spec (ws := Cond.code y cy nl (none) :: zAW) B.pre
  have hl := lv_entry av (n := nl) hnl
  rw [lg_entry_eq]
  exact body p e s m below meth c ⟨B.exec, B.bytes, hml, findClass_of_methodNamed B.named, fun w h => hts w (List.mem_cons_of_mem _ h), hK, fun q h => Or.inr h, hN0, hT0⟩ B.returns B.notSynchronized (name_of_methodNamed B.named B.method).1 s.heap [] _ hP hD0.self va_S.rf (hlv ▸ hl)
theorem zMet_ofWF {l : Launch} {y : MethodName} {ws ws' : List Cond} {rm : Room} {Pc : Array Value → State → Prop} {Qc : Array Value → State → Outcome → State → Prop} {mc ms : Nat} {free : Addr → Prop} {cc : ByteArray} {maxL : Nat} {ret : Option FieldType}
    (hy : plainFor y = true) (hw : ws = Cond.code y cc maxL ret :: ws')
    (body : ∀ p e s m args below meth c s₁, BodyLoose p l y (headSpec ws rm) cc maxL ret e s m args below meth c s₁ → c.maxLocals = maxL → Pc args s →
      W p l e (headSpec ws rm).room s m args below meth c s.heap [] 0 0 (MQ below Qc args s mc ms free) (entryFrame m args maxL)) : Met l y ws rm Pc Qc mc ms free := by
  refine MetFree.of_bodySF (code := cc) (maxLocals := maxL) (ret := ret) hy ?_ ?_
  · intro args s m h hn
    obtain ⟨meth, c, h1, h2, h3, h4, h5, h6, -, -⟩ := Cond.code_spec hn (atoms_spec (ws := ws) h _ (by rw [hw]; exact List.mem_cons_self))
    exact ⟨meth, c, h1, h2, h3, h4, h5, h6⟩
  · intro p e s m args below meth c s₁ B hml hP _
    have hh0 : s₁.heap = s.heap := by rw [B.state]; rfl
    obtain ⟨t, a1, o, b1, b2, b3⟩ := body p e s m args below meth c s₁ B hml hP s₁ hh0 (Stand.of_body B)
    exact ⟨t, o, a1, b1, b2, ⟨b3.1, b3.2⟩⟩
theorem zMI_ofF {S : Type} {l : Launch} {y : MethodName} {cy : ByteArray} {nl fr lo : Nat} {G : va_G} {tys : List (ClassId × FieldType)} {av : List Value} {W0 : va_W} {post : Int32 → S → Prop} {W1 : S → va_W} {mc ms : Nat} (hy : plainFor y = true) (hnl : (lg_sl av).length ≤ nl) (lv : List (Nat × Value)) (hlv : lv_args 0 av = lv)
    (body : ∀ (p : Program) (e : Env) (s : State) (m : MethodId) (below : List Frame) (meth : Method) (c : Code), Cx p s m av.toArray c cy nl y.cls G tys (va_A W0 s.heap.size) → meth.sig.returnType = some .int → meth.locks = false → meth.name = y.name →
      ZZ p l e { frames := fr, cells := mc, slots := ms, locals := lo } s m av.toArray below meth c G (va_A W0 s.heap.size) nl 0 0 (MQ below (va_Qi post (fun u => cE G tys (va_A W0 s.heap.size) (W1 u)) (va_A W0 s.heap.size)) av.toArray s mc ms (va_A W0 s.heap.size)) W0 lv 0 []) : MI S l y cy nl fr lo G tys av W0 post W1 mc ms := by
  intro sz
  refine zMet_ofWF (cc := cy) (maxL := nl) (ret := some .int) hy rfl ?_
  intro p e s m args below meth c s₁ B hml hv
  obtain ⟨rfl, hsz, hP, hK, hD0, hN0, hT0⟩ := hv
  subst hsz
  have hts := atoms_spec (ws := Cond.code y cy nl (some .int) :: zAW) B.pre
  have hl := lv_entry av (n := nl) hnl
  rw [lg_entry_eq]
  exact body p e s m below meth c ⟨B.exec, B.bytes, hml, findClass_of_methodNamed B.named, fun w h => hts w (List.mem_cons_of_mem _ h), hK, fun q h => Or.inr h, hN0, hT0⟩ B.returns B.notSynchronized (name_of_methodNamed B.named B.method).1 s.heap [] _ hP hD0.self va_S.rf (hlv ▸ hl)
theorem z_calli {p : Program} {l : Launch} {e : Env} {R : Room} {s : State} {m : MethodId} {args : Array Value} {below : List Frame} {meth : Method} {c : Code} {cc : ByteArray} {nL : Nat} {own : String} {G : va_G} {tys : List (ClassId × FieldType)} {A : Nat → Prop} {cells slots : Nat} {Q : State → Prop} {ws : va_W} {lv : List (Nat × Value)} {pc n : Nat} {rest : List Value} (hC : Cx p s m args c cc nL own G tys A) {S : Type} {y : MethodName} {cy : ByteArray} {nl fr lo : Nat} {a : Nat} {As : List Value} {W0 : va_W} {post : Int32 → S → Prop} {W1 : S → va_W} {mc ms index k9 : Nat} {C : String} (hM : MI S l y cy nl fr lo G tys (.ref a :: As) W0 post W1 mc ms) (hg : GoodIn zAW (wsV own index C y (.code y cy nl (some .int) :: zAW))) (hd : y.cls = C ∧ y.cls ≠ "java/lang/invoke/MethodHandle" ∧ y.cls ≠ "java/lang/invoke/VarHandle" ∧ (parseMethodDescriptor y.desc).map (fun d => d.parameters.length) = some k9) (hdg : decode cc pc = .ok (.invokevirtual index, 3)) (hR : fr + 1 ≤ R.frames ∧ 8 + (nl + 11) + lo ≤ R.locals) (q0 : Nat) {ci : Nat} {fs : List Value} {qc : vw_C} (hcl : vwCl[ci]? = some qc) (hqc : qc.1 = C) (he : W0[q0]? = some (a, .inr (ci, fs))) (is : List Nat) (hCw : is.map (fun i => ws[i]?) = W0.map some) (hnd : va_nd is = true) (hnA : As.length = k9) (hcat : (rest.map fun v => v.category).sum ≤ 8) (hf : cells + mc ≤ R.cells ∧ slots + ms ≤ R.slots) {ws2 : S → va_W} (js : List Nat) (hAw : ∀ u, is.map (fun i => (ws2 u)[i]?) = (W1 u).map some) (WR : va_W) (hBw : ∀ u, js.map (fun i => (ws2 u)[i]?) = WR.map some) (hBo : js.map (fun i => ws[i]?) = WR.map some) (hcv : ∀ u, (List.range (ws2 u).length).all (fun k => is.contains k || js.contains k) = true) (ads : List Nat) (hadr : ∀ u, (W1 u).map Prod.fst = ads) (hadr0 : W0.map Prod.fst = ads) (hn : pc + 3 = n) {st0 : List Value} (hst : As.reverse ++ .ref a :: rest = st0) (kk : ∀ (r : Int32) (u : S), post r u → ZZ p l e R s m args below meth c G A nL (cells + mc) (slots + ms) Q (ws2 u) lv n (.int r :: rest)) : ZZ p l e R s m args below meth c G A nL cells slots Q ws lv pc st0 := by
  subst hn; subst hst
  intro H locs ls hP hD hS hl
  have hPc := wmap_P hP hCw
  have hDc := hD.sub is hnd hCw
  have hK := hC.2.2.2.2.2.1
  have hFc := va_free (wc := W0) hD hS hC.2.2.2.2.2.2.1 is hCw
  subst hqc
  refine va_calli (va_runV (C := qc.1) (As := As) (rest := rest) (Ts := zAW) ⟨hC.1, hC.2.1, hC.2.2.1, hC.2.2.2.1, hC.2.2.2.2.1⟩ (hM H.size) (cwV k9 hC.2.2.2.2.1 hg rfl rfl rfl hd hR) ⟨fun a' U g mk q => ⟨q.1, cW_moved q.2⟩, va_recv hK hPc hcl he, fun U hU hW => ⟨rfl, by rw [hU], by rw [hU]; exact hPc, va_K.moved hW.alike hK, hDc.weaken (fun _ _ _ _ => trivial), zN_warm hW hC.2.2.2.2.2.2.2.1, zT_to hW hU hS hFc hC.2.2.2.2.2.2.2.2⟩⟩ rfl hnA hl.1 rfl (lv_room hcat) hdg hf) hS (fun q _ h => hFc q h) hFc (fun r u t H1 locs1 ht hvm hw hB hz1 hk1 hS1 => by
    obtain ⟨hP2, hD2⟩ := wput_ok hP hD hCw ((hadr u).trans hadr0.symm) (wget_of (hAw u) ((hBw u).trans hBo.symm) (hcv u)) hk1 (ht ▸ hB.1)
    exact kk r u hw H1 locs1 ls hP2 hD2 hS1 hl)
theorem z_callsi {p : Program} {l : Launch} {e : Env} {R : Room} {s : State} {m : MethodId} {args : Array Value} {below : List Frame} {meth : Method} {c : Code} {cc : ByteArray} {nL : Nat} {own : String} {G : va_G} {tys : List (ClassId × FieldType)} {A : Nat → Prop} {cells slots : Nat} {Q : State → Prop} {ws : va_W} {lv : List (Nat × Value)} {pc n : Nat} {rest : List Value} (hC : Cx p s m args c cc nL own G tys A) {S : Type} {y : MethodName} {cy : ByteArray} {nl fr lo : Nat} {As : List Value} {W0 : va_W} {post : Int32 → S → Prop} {W1 : S → va_W} {mc ms index k9 : Nat} (hM : MI S l y cy nl fr lo G tys As W0 post W1 mc ms) (hg : GoodIn zAW (va_wsS own index y (.code y cy nl (some .int) :: zAW))) (hd : y.cls ≠ "java/lang/invoke/MethodHandle" ∧ y.cls ≠ "java/lang/invoke/VarHandle" ∧ (parseMethodDescriptor y.desc).map (fun d => d.parameters.length) = some k9) (hdg : decode cc pc = .ok (.invokestatic index, 3)) (hR : fr + 1 ≤ R.frames ∧ 8 + (nl + 11) + lo ≤ R.locals) (is : List Nat) (hCw : is.map (fun i => ws[i]?) = W0.map some) (hnd : va_nd is = true) (hnA : As.length = k9) (hcat : (rest.map fun v => v.category).sum ≤ 8) (hf : cells + mc ≤ R.cells ∧ slots + ms ≤ R.slots) {ws2 : S → va_W} (js : List Nat) (hAw : ∀ u, is.map (fun i => (ws2 u)[i]?) = (W1 u).map some) (WR : va_W) (hBw : ∀ u, js.map (fun i => (ws2 u)[i]?) = WR.map some) (hBo : js.map (fun i => ws[i]?) = WR.map some) (hcv : ∀ u, (List.range (ws2 u).length).all (fun k => is.contains k || js.contains k) = true) (ads : List Nat) (hadr : ∀ u, (W1 u).map Prod.fst = ads) (hadr0 : W0.map Prod.fst = ads) (hn : pc + 3 = n) {st0 : List Value} (hst : As.reverse ++ rest = st0) (kk : ∀ (r : Int32) (u : S), post r u → ZZ p l e R s m args below meth c G A nL (cells + mc) (slots + ms) Q (ws2 u) lv n (.int r :: rest)) : ZZ p l e R s m args below meth c G A nL cells slots Q ws lv pc st0 := by
  subst hn; subst hst
  intro H locs ls hP hD hS hl
  have hPc := wmap_P hP hCw
  have hDc := hD.sub is hnd hCw
  have hK := hC.2.2.2.2.2.1
  have hFc := va_free (wc := W0) hD hS hC.2.2.2.2.2.2.1 is hCw
  refine va_calli (va_runS (As := As) (rest := rest) (Ts := zAW) ⟨hC.1, hC.2.1, hC.2.2.1, hC.2.2.2.1, hC.2.2.2.2.1⟩ (hM H.size) (va_cwS k9 hC.2.2.2.2.1 hg rfl rfl rfl hd hR) ⟨fun a' U g mk q => ⟨q.1, cW_moved q.2⟩, fun U hU hW => ⟨rfl, by rw [hU], by rw [hU]; exact hPc, va_K.moved hW.alike hK, hDc.weaken (fun _ _ _ _ => trivial), zN_warm hW hC.2.2.2.2.2.2.2.1, zT_to hW hU hS hFc hC.2.2.2.2.2.2.2.2⟩⟩ rfl hnA hl.1 rfl (lv_room hcat) hdg hf) hS (fun q _ h => hFc q h) hFc (fun r u t H1 locs1 ht hvm hw hB hz1 hk1 hS1 => by
    obtain ⟨hP2, hD2⟩ := wput_ok hP hD hCw ((hadr u).trans hadr0.symm) (wget_of (hAw u) ((hBw u).trans hBo.symm) (hcv u)) hk1 (ht ▸ hB.1)
    exact kk r u hw H1 locs1 ls hP2 hD2 hS1 hl)
theorem z_callsiN {p : Program} {l : Launch} {e : Env} {R : Room} {s : State} {m : MethodId} {args : Array Value} {below : List Frame} {meth : Method} {c : Code} {cc : ByteArray} {nL : Nat} {own : String} {G : va_G} {tys : List (ClassId × FieldType)} {A : Nat → Prop} {cells slots : Nat} {Q : State → Prop} {ws : va_W} {lv : List (Nat × Value)} {pc n : Nat} {rest : List Value} (hC : Cx p s m args c cc nL own G tys A) {S : Type} {y : MethodName} {cy : ByteArray} {nl fr lo : Nat} {As : List Value} {W0 : va_W} {post : Int32 → S → Prop} {W1 : S → va_W} {mc ms index k9 : Nat} (hM : MI S l y cy nl fr lo G tys As W0 post W1 mc ms) (hg : GoodIn zAW (.code y cy nl (some .int) :: zAW)) (hne : Cond.methodLinkNest own index y RX2 ∈ zNW) (hsx : Cond.static y ∈ zAW) (hix : Cond.initialized y.cls ∈ zAW) (hd : y.cls ≠ "java/lang/invoke/MethodHandle" ∧ y.cls ≠ "java/lang/invoke/VarHandle" ∧ (parseMethodDescriptor y.desc).map (fun d => d.parameters.length) = some k9) (hdg : decode cc pc = .ok (.invokestatic index, 3)) (hR : fr + 1 ≤ R.frames ∧ 8 + (nl + 11) + lo ≤ R.locals) (is : List Nat) (hCw : is.map (fun i => ws[i]?) = W0.map some) (hnd : va_nd is = true) (hnA : As.length = k9) (hcat : (rest.map fun v => v.category).sum ≤ 8) (hf : cells + mc ≤ R.cells ∧ slots + ms ≤ R.slots) {ws2 : S → va_W} (js : List Nat) (hAw : ∀ u, is.map (fun i => (ws2 u)[i]?) = (W1 u).map some) (WR : va_W) (hBw : ∀ u, js.map (fun i => (ws2 u)[i]?) = WR.map some) (hBo : js.map (fun i => ws[i]?) = WR.map some) (hcv : ∀ u, (List.range (ws2 u).length).all (fun k => is.contains k || js.contains k) = true) (ads : List Nat) (hadr : ∀ u, (W1 u).map Prod.fst = ads) (hadr0 : W0.map Prod.fst = ads) (hn : pc + 3 = n) {st0 : List Value} (hst : As.reverse ++ rest = st0) (kk : ∀ (r : Int32) (u : S), post r u → ZZ p l e R s m args below meth c G A nL (cells + mc) (slots + ms) Q (ws2 u) lv n (.int r :: rest)) : ZZ p l e R s m args below meth c G A nL cells slots Q ws lv pc st0 := by
  subst hn; subst hst
  intro H locs ls hP hD hS hl
  have hPc := wmap_P hP hCw
  have hDc := hD.sub is hnd hCw
  have hK := hC.2.2.2.2.2.1
  have hFc := va_free (wc := W0) hD hS hC.2.2.2.2.2.2.1 is hCw
  refine va_calli (va_runSN (As := As) (rest := rest) (Ts := zAW) ⟨hC.1, hC.2.1, hC.2.2.1, hC.2.2.2.1, hC.2.2.2.2.1⟩ (hM H.size) ⟨va_cnB k9 hC.2.2.2.2.1 hg rfl rfl rfl (hC.2.2.2.2.2.2.2.1.1 _ hne) (hC.2.2.2.2.1 _ hix) hd hR, hC.2.2.2.2.1 _ hsx, trivial⟩ ⟨fun a' U g mk q => ⟨q.1, cW_moved q.2⟩, fun U hU hW => ⟨rfl, by rw [hU], by rw [hU]; exact hPc, va_K.moved hW.alike hK, hDc.weaken (fun _ _ _ _ => trivial), zN_warm hW hC.2.2.2.2.2.2.2.1, zT_to hW hU hS hFc hC.2.2.2.2.2.2.2.2⟩⟩ rfl hnA hl.1 rfl (lv_room hcat) hdg hf) hS (fun q _ h => hFc q h) hFc (fun r u t H1 locs1 ht hvm hw hB hz1 hk1 hS1 => by
    obtain ⟨hP2, hD2⟩ := wput_ok hP hD hCw ((hadr u).trans hadr0.symm) (wget_of (hAw u) ((hBw u).trans hBo.symm) (hcv u)) hk1 (ht ▸ hB.1)
    exact kk r u hw H1 locs1 ls hP2 hD2 hS1 hl)
theorem z_callb {p : Program} {l : Launch} {e : Env} {R : Room} {s : State} {m : MethodId} {args : Array Value} {below : List Frame} {meth : Method} {c : Code} {cc : ByteArray} {nL : Nat} {own : String} {G : va_G} {tys : List (ClassId × FieldType)} {A : Nat → Prop} {cells slots : Nat} {Q : State → Prop} {ws : va_W} {lv : List (Nat × Value)} {pc n : Nat} {rest : List Value} (hC : Cx p s m args c cc nL own G tys A) {S : Type} {y : MethodName} {cy : ByteArray} {nl fr lo : Nat} {a : Nat} {As : List Value} {W0 : va_W} {post : Int32 → S → Prop} {W1 : S → va_W} {mc ms index k9 : Nat} {C : String} (hM : MB S l y cy nl fr lo G tys (.ref a :: As) W0 post W1 mc ms) (hg : GoodIn zAW (wsV own index C y (.code y cy nl (some .boolean) :: zAW))) (hd : y.cls = C ∧ y.cls ≠ "java/lang/invoke/MethodHandle" ∧ y.cls ≠ "java/lang/invoke/VarHandle" ∧ (parseMethodDescriptor y.desc).map (fun d => d.parameters.length) = some k9) (hdg : decode cc pc = .ok (.invokevirtual index, 3)) (hR : fr + 1 ≤ R.frames ∧ 8 + (nl + 11) + lo ≤ R.locals) (q0 : Nat) {ci : Nat} {fs : List Value} {qc : vw_C} (hcl : vwCl[ci]? = some qc) (hqc : qc.1 = C) (he : W0[q0]? = some (a, .inr (ci, fs))) (is : List Nat) (hCw : is.map (fun i => ws[i]?) = W0.map some) (hnd : va_nd is = true) (hnA : As.length = k9) (hcat : (rest.map fun v => v.category).sum ≤ 8) (hf : cells + mc ≤ R.cells ∧ slots + ms ≤ R.slots) {ws2 : S → va_W} (js : List Nat) (hAw : ∀ u, is.map (fun i => (ws2 u)[i]?) = (W1 u).map some) (WR : va_W) (hBw : ∀ u, js.map (fun i => (ws2 u)[i]?) = WR.map some) (hBo : js.map (fun i => ws[i]?) = WR.map some) (hcv : ∀ u, (List.range (ws2 u).length).all (fun k => is.contains k || js.contains k) = true) (ads : List Nat) (hadr : ∀ u, (W1 u).map Prod.fst = ads) (hadr0 : W0.map Prod.fst = ads) (hn : pc + 3 = n) {st0 : List Value} (hst : As.reverse ++ .ref a :: rest = st0) (kk : ∀ (r : Int32) (u : S), post r u → ZZ p l e R s m args below meth c G A nL (cells + mc) (slots + ms) Q (ws2 u) lv n (.int r :: rest)) : ZZ p l e R s m args below meth c G A nL cells slots Q ws lv pc st0 := by
  subst hn; subst hst
  intro H locs ls hP hD hS hl
  have hPc := wmap_P hP hCw
  have hDc := hD.sub is hnd hCw
  have hK := hC.2.2.2.2.2.1
  have hFc := va_free (wc := W0) hD hS hC.2.2.2.2.2.2.1 is hCw
  subst hqc
  refine va_calli (va_runV (C := qc.1) (As := As) (rest := rest) (Ts := zAW) ⟨hC.1, hC.2.1, hC.2.2.1, hC.2.2.2.1, hC.2.2.2.2.1⟩ (hM H.size) (cwV k9 hC.2.2.2.2.1 hg rfl rfl rfl hd hR) ⟨fun a' U g mk q => ⟨q.1, cW_moved q.2⟩, va_recv hK hPc hcl he, fun U hU hW => ⟨rfl, by rw [hU], by rw [hU]; exact hPc, va_K.moved hW.alike hK, hDc.weaken (fun _ _ _ _ => trivial), zN_warm hW hC.2.2.2.2.2.2.2.1, zT_to hW hU hS hFc hC.2.2.2.2.2.2.2.2⟩⟩ rfl hnA hl.1 rfl (lv_room hcat) hdg hf) hS (fun q _ h => hFc q h) hFc (fun r u t H1 locs1 ht hvm hw hB hz1 hk1 hS1 => by
    obtain ⟨hP2, hD2⟩ := wput_ok hP hD hCw ((hadr u).trans hadr0.symm) (wget_of (hAw u) ((hBw u).trans hBo.symm) (hcv u)) hk1 (ht ▸ hB.1)
    exact kk r u hw H1 locs1 ls hP2 hD2 hS1 hl)
theorem z_callsb {p : Program} {l : Launch} {e : Env} {R : Room} {s : State} {m : MethodId} {args : Array Value} {below : List Frame} {meth : Method} {c : Code} {cc : ByteArray} {nL : Nat} {own : String} {G : va_G} {tys : List (ClassId × FieldType)} {A : Nat → Prop} {cells slots : Nat} {Q : State → Prop} {ws : va_W} {lv : List (Nat × Value)} {pc n : Nat} {rest : List Value} (hC : Cx p s m args c cc nL own G tys A) {S : Type} {y : MethodName} {cy : ByteArray} {nl fr lo : Nat} {As : List Value} {W0 : va_W} {post : Int32 → S → Prop} {W1 : S → va_W} {mc ms index k9 : Nat} (hM : MB S l y cy nl fr lo G tys As W0 post W1 mc ms) (hg : GoodIn zAW (va_wsS own index y (.code y cy nl (some .boolean) :: zAW))) (hd : y.cls ≠ "java/lang/invoke/MethodHandle" ∧ y.cls ≠ "java/lang/invoke/VarHandle" ∧ (parseMethodDescriptor y.desc).map (fun d => d.parameters.length) = some k9) (hdg : decode cc pc = .ok (.invokestatic index, 3)) (hR : fr + 1 ≤ R.frames ∧ 8 + (nl + 11) + lo ≤ R.locals) (is : List Nat) (hCw : is.map (fun i => ws[i]?) = W0.map some) (hnd : va_nd is = true) (hnA : As.length = k9) (hcat : (rest.map fun v => v.category).sum ≤ 8) (hf : cells + mc ≤ R.cells ∧ slots + ms ≤ R.slots) {ws2 : S → va_W} (js : List Nat) (hAw : ∀ u, is.map (fun i => (ws2 u)[i]?) = (W1 u).map some) (WR : va_W) (hBw : ∀ u, js.map (fun i => (ws2 u)[i]?) = WR.map some) (hBo : js.map (fun i => ws[i]?) = WR.map some) (hcv : ∀ u, (List.range (ws2 u).length).all (fun k => is.contains k || js.contains k) = true) (ads : List Nat) (hadr : ∀ u, (W1 u).map Prod.fst = ads) (hadr0 : W0.map Prod.fst = ads) (hn : pc + 3 = n) {st0 : List Value} (hst : As.reverse ++ rest = st0) (kk : ∀ (r : Int32) (u : S), post r u → ZZ p l e R s m args below meth c G A nL (cells + mc) (slots + ms) Q (ws2 u) lv n (.int r :: rest)) : ZZ p l e R s m args below meth c G A nL cells slots Q ws lv pc st0 := by
  subst hn; subst hst
  intro H locs ls hP hD hS hl
  have hPc := wmap_P hP hCw
  have hDc := hD.sub is hnd hCw
  have hK := hC.2.2.2.2.2.1
  have hFc := va_free (wc := W0) hD hS hC.2.2.2.2.2.2.1 is hCw
  refine va_calli (va_runS (As := As) (rest := rest) (Ts := zAW) ⟨hC.1, hC.2.1, hC.2.2.1, hC.2.2.2.1, hC.2.2.2.2.1⟩ (hM H.size) (va_cwS k9 hC.2.2.2.2.1 hg rfl rfl rfl hd hR) ⟨fun a' U g mk q => ⟨q.1, cW_moved q.2⟩, fun U hU hW => ⟨rfl, by rw [hU], by rw [hU]; exact hPc, va_K.moved hW.alike hK, hDc.weaken (fun _ _ _ _ => trivial), zN_warm hW hC.2.2.2.2.2.2.2.1, zT_to hW hU hS hFc hC.2.2.2.2.2.2.2.2⟩⟩ rfl hnA hl.1 rfl (lv_room hcat) hdg hf) hS (fun q _ h => hFc q h) hFc (fun r u t H1 locs1 ht hvm hw hB hz1 hk1 hS1 => by
    obtain ⟨hP2, hD2⟩ := wput_ok hP hD hCw ((hadr u).trans hadr0.symm) (wget_of (hAw u) ((hBw u).trans hBo.symm) (hcv u)) hk1 (ht ▸ hB.1)
    exact kk r u hw H1 locs1 ls hP2 hD2 hS1 hl)
theorem z_calll {p : Program} {l : Launch} {e : Env} {R : Room} {s : State} {m : MethodId} {args : Array Value} {below : List Frame} {meth : Method} {c : Code} {cc : ByteArray} {nL : Nat} {own : String} {G : va_G} {tys : List (ClassId × FieldType)} {A : Nat → Prop} {cells slots : Nat} {Q : State → Prop} {ws : va_W} {lv : List (Nat × Value)} {pc n : Nat} {rest : List Value} (hC : Cx p s m args c cc nL own G tys A) {S : Type} {y : MethodName} {cy : ByteArray} {nl fr lo : Nat} {a : Nat} {As : List Value} {W0 : va_W} {post : Int64 → S → Prop} {W1 : S → va_W} {mc ms index k9 : Nat} {C : String} (hM : ML S l y cy nl fr lo G tys (.ref a :: As) W0 post W1 mc ms) (hg : GoodIn zAW (wsV own index C y (.code y cy nl (some .long) :: zAW))) (hd : y.cls = C ∧ y.cls ≠ "java/lang/invoke/MethodHandle" ∧ y.cls ≠ "java/lang/invoke/VarHandle" ∧ (parseMethodDescriptor y.desc).map (fun d => d.parameters.length) = some k9) (hdg : decode cc pc = .ok (.invokevirtual index, 3)) (hR : fr + 1 ≤ R.frames ∧ 8 + (nl + 11) + lo ≤ R.locals) (q0 : Nat) {ci : Nat} {fs : List Value} {qc : vw_C} (hcl : vwCl[ci]? = some qc) (hqc : qc.1 = C) (he : W0[q0]? = some (a, .inr (ci, fs))) (is : List Nat) (hCw : is.map (fun i => ws[i]?) = W0.map some) (hnd : va_nd is = true) (hnA : As.length = k9) (hcat : (rest.map fun v => v.category).sum ≤ 8) (hf : cells + mc ≤ R.cells ∧ slots + ms ≤ R.slots) {ws2 : S → va_W} (js : List Nat) (hAw : ∀ u, is.map (fun i => (ws2 u)[i]?) = (W1 u).map some) (WR : va_W) (hBw : ∀ u, js.map (fun i => (ws2 u)[i]?) = WR.map some) (hBo : js.map (fun i => ws[i]?) = WR.map some) (hcv : ∀ u, (List.range (ws2 u).length).all (fun k => is.contains k || js.contains k) = true) (ads : List Nat) (hadr : ∀ u, (W1 u).map Prod.fst = ads) (hadr0 : W0.map Prod.fst = ads) (hn : pc + 3 = n) {st0 : List Value} (hst : As.reverse ++ .ref a :: rest = st0) (kk : ∀ (r : Int64) (u : S), post r u → ZZ p l e R s m args below meth c G A nL (cells + mc) (slots + ms) Q (ws2 u) lv n (.long r :: rest)) : ZZ p l e R s m args below meth c G A nL cells slots Q ws lv pc st0 := by
  subst hn; subst hst
  intro H locs ls hP hD hS hl
  have hPc := wmap_P hP hCw
  have hDc := hD.sub is hnd hCw
  have hK := hC.2.2.2.2.2.1
  have hFc := va_free (wc := W0) hD hS hC.2.2.2.2.2.2.1 is hCw
  subst hqc
  refine va_calll (va_runV (C := qc.1) (As := As) (rest := rest) (Ts := zAW) ⟨hC.1, hC.2.1, hC.2.2.1, hC.2.2.2.1, hC.2.2.2.2.1⟩ (hM H.size) (cwV k9 hC.2.2.2.2.1 hg rfl rfl rfl hd hR) ⟨fun a' U g mk q => ⟨q.1, cW_moved q.2⟩, va_recv hK hPc hcl he, fun U hU hW => ⟨rfl, by rw [hU], by rw [hU]; exact hPc, va_K.moved hW.alike hK, hDc.weaken (fun _ _ _ _ => trivial), zN_warm hW hC.2.2.2.2.2.2.2.1, zT_to hW hU hS hFc hC.2.2.2.2.2.2.2.2⟩⟩ rfl hnA hl.1 rfl (lv_room hcat) hdg hf) hS (fun q _ h => hFc q h) hFc (fun r u t H1 locs1 ht hvm hw hB hz1 hk1 hS1 => by
    obtain ⟨hP2, hD2⟩ := wput_ok hP hD hCw ((hadr u).trans hadr0.symm) (wget_of (hAw u) ((hBw u).trans hBo.symm) (hcv u)) hk1 (ht ▸ hB.1)
    exact kk r u hw H1 locs1 ls hP2 hD2 hS1 hl)
theorem z_callsl {p : Program} {l : Launch} {e : Env} {R : Room} {s : State} {m : MethodId} {args : Array Value} {below : List Frame} {meth : Method} {c : Code} {cc : ByteArray} {nL : Nat} {own : String} {G : va_G} {tys : List (ClassId × FieldType)} {A : Nat → Prop} {cells slots : Nat} {Q : State → Prop} {ws : va_W} {lv : List (Nat × Value)} {pc n : Nat} {rest : List Value} (hC : Cx p s m args c cc nL own G tys A) {S : Type} {y : MethodName} {cy : ByteArray} {nl fr lo : Nat} {As : List Value} {W0 : va_W} {post : Int64 → S → Prop} {W1 : S → va_W} {mc ms index k9 : Nat} (hM : ML S l y cy nl fr lo G tys As W0 post W1 mc ms) (hg : GoodIn zAW (va_wsS own index y (.code y cy nl (some .long) :: zAW))) (hd : y.cls ≠ "java/lang/invoke/MethodHandle" ∧ y.cls ≠ "java/lang/invoke/VarHandle" ∧ (parseMethodDescriptor y.desc).map (fun d => d.parameters.length) = some k9) (hdg : decode cc pc = .ok (.invokestatic index, 3)) (hR : fr + 1 ≤ R.frames ∧ 8 + (nl + 11) + lo ≤ R.locals) (is : List Nat) (hCw : is.map (fun i => ws[i]?) = W0.map some) (hnd : va_nd is = true) (hnA : As.length = k9) (hcat : (rest.map fun v => v.category).sum ≤ 8) (hf : cells + mc ≤ R.cells ∧ slots + ms ≤ R.slots) {ws2 : S → va_W} (js : List Nat) (hAw : ∀ u, is.map (fun i => (ws2 u)[i]?) = (W1 u).map some) (WR : va_W) (hBw : ∀ u, js.map (fun i => (ws2 u)[i]?) = WR.map some) (hBo : js.map (fun i => ws[i]?) = WR.map some) (hcv : ∀ u, (List.range (ws2 u).length).all (fun k => is.contains k || js.contains k) = true) (ads : List Nat) (hadr : ∀ u, (W1 u).map Prod.fst = ads) (hadr0 : W0.map Prod.fst = ads) (hn : pc + 3 = n) {st0 : List Value} (hst : As.reverse ++ rest = st0) (kk : ∀ (r : Int64) (u : S), post r u → ZZ p l e R s m args below meth c G A nL (cells + mc) (slots + ms) Q (ws2 u) lv n (.long r :: rest)) : ZZ p l e R s m args below meth c G A nL cells slots Q ws lv pc st0 := by
  subst hn; subst hst
  intro H locs ls hP hD hS hl
  have hPc := wmap_P hP hCw
  have hDc := hD.sub is hnd hCw
  have hK := hC.2.2.2.2.2.1
  have hFc := va_free (wc := W0) hD hS hC.2.2.2.2.2.2.1 is hCw
  refine va_calll (va_runS (As := As) (rest := rest) (Ts := zAW) ⟨hC.1, hC.2.1, hC.2.2.1, hC.2.2.2.1, hC.2.2.2.2.1⟩ (hM H.size) (va_cwS k9 hC.2.2.2.2.1 hg rfl rfl rfl hd hR) ⟨fun a' U g mk q => ⟨q.1, cW_moved q.2⟩, fun U hU hW => ⟨rfl, by rw [hU], by rw [hU]; exact hPc, va_K.moved hW.alike hK, hDc.weaken (fun _ _ _ _ => trivial), zN_warm hW hC.2.2.2.2.2.2.2.1, zT_to hW hU hS hFc hC.2.2.2.2.2.2.2.2⟩⟩ rfl hnA hl.1 rfl (lv_room hcat) hdg hf) hS (fun q _ h => hFc q h) hFc (fun r u t H1 locs1 ht hvm hw hB hz1 hk1 hS1 => by
    obtain ⟨hP2, hD2⟩ := wput_ok hP hD hCw ((hadr u).trans hadr0.symm) (wget_of (hAw u) ((hBw u).trans hBo.symm) (hcv u)) hk1 (ht ▸ hB.1)
    exact kk r u hw H1 locs1 ls hP2 hD2 hS1 hl)
theorem z_calld {p : Program} {l : Launch} {e : Env} {R : Room} {s : State} {m : MethodId} {args : Array Value} {below : List Frame} {meth : Method} {c : Code} {cc : ByteArray} {nL : Nat} {own : String} {G : va_G} {tys : List (ClassId × FieldType)} {A : Nat → Prop} {cells slots : Nat} {Q : State → Prop} {ws : va_W} {lv : List (Nat × Value)} {pc n : Nat} {rest : List Value} (hC : Cx p s m args c cc nL own G tys A) {S : Type} {y : MethodName} {cy : ByteArray} {nl fr lo : Nat} {a : Nat} {As : List Value} {W0 : va_W} {post : UInt64 → S → Prop} {W1 : S → va_W} {mc ms index k9 : Nat} {C : String} (hM : MD S l y cy nl fr lo G tys (.ref a :: As) W0 post W1 mc ms) (hg : GoodIn zAW (wsV own index C y (.code y cy nl (some .double) :: zAW))) (hd : y.cls = C ∧ y.cls ≠ "java/lang/invoke/MethodHandle" ∧ y.cls ≠ "java/lang/invoke/VarHandle" ∧ (parseMethodDescriptor y.desc).map (fun d => d.parameters.length) = some k9) (hdg : decode cc pc = .ok (.invokevirtual index, 3)) (hR : fr + 1 ≤ R.frames ∧ 8 + (nl + 11) + lo ≤ R.locals) (q0 : Nat) {ci : Nat} {fs : List Value} {qc : vw_C} (hcl : vwCl[ci]? = some qc) (hqc : qc.1 = C) (he : W0[q0]? = some (a, .inr (ci, fs))) (is : List Nat) (hCw : is.map (fun i => ws[i]?) = W0.map some) (hnd : va_nd is = true) (hnA : As.length = k9) (hcat : (rest.map fun v => v.category).sum ≤ 8) (hf : cells + mc ≤ R.cells ∧ slots + ms ≤ R.slots) {ws2 : S → va_W} (js : List Nat) (hAw : ∀ u, is.map (fun i => (ws2 u)[i]?) = (W1 u).map some) (WR : va_W) (hBw : ∀ u, js.map (fun i => (ws2 u)[i]?) = WR.map some) (hBo : js.map (fun i => ws[i]?) = WR.map some) (hcv : ∀ u, (List.range (ws2 u).length).all (fun k => is.contains k || js.contains k) = true) (ads : List Nat) (hadr : ∀ u, (W1 u).map Prod.fst = ads) (hadr0 : W0.map Prod.fst = ads) (hn : pc + 3 = n) {st0 : List Value} (hst : As.reverse ++ .ref a :: rest = st0) (kk : ∀ (r : UInt64) (u : S), post r u → ZZ p l e R s m args below meth c G A nL (cells + mc) (slots + ms) Q (ws2 u) lv n (.double r :: rest)) : ZZ p l e R s m args below meth c G A nL cells slots Q ws lv pc st0 := by
  subst hn; subst hst
  intro H locs ls hP hD hS hl
  have hPc := wmap_P hP hCw
  have hDc := hD.sub is hnd hCw
  have hK := hC.2.2.2.2.2.1
  have hFc := va_free (wc := W0) hD hS hC.2.2.2.2.2.2.1 is hCw
  subst hqc
  refine va_calld (va_runV (C := qc.1) (As := As) (rest := rest) (Ts := zAW) ⟨hC.1, hC.2.1, hC.2.2.1, hC.2.2.2.1, hC.2.2.2.2.1⟩ (hM H.size) (cwV k9 hC.2.2.2.2.1 hg rfl rfl rfl hd hR) ⟨fun a' U g mk q => ⟨q.1, cW_moved q.2⟩, va_recv hK hPc hcl he, fun U hU hW => ⟨rfl, by rw [hU], by rw [hU]; exact hPc, va_K.moved hW.alike hK, hDc.weaken (fun _ _ _ _ => trivial), zN_warm hW hC.2.2.2.2.2.2.2.1, zT_to hW hU hS hFc hC.2.2.2.2.2.2.2.2⟩⟩ rfl hnA hl.1 rfl (lv_room hcat) hdg hf) hS (fun q _ h => hFc q h) hFc (fun r u t H1 locs1 ht hvm hw hB hz1 hk1 hS1 => by
    obtain ⟨hP2, hD2⟩ := wput_ok hP hD hCw ((hadr u).trans hadr0.symm) (wget_of (hAw u) ((hBw u).trans hBo.symm) (hcv u)) hk1 (ht ▸ hB.1)
    exact kk r u hw H1 locs1 ls hP2 hD2 hS1 hl)
theorem z_callsd {p : Program} {l : Launch} {e : Env} {R : Room} {s : State} {m : MethodId} {args : Array Value} {below : List Frame} {meth : Method} {c : Code} {cc : ByteArray} {nL : Nat} {own : String} {G : va_G} {tys : List (ClassId × FieldType)} {A : Nat → Prop} {cells slots : Nat} {Q : State → Prop} {ws : va_W} {lv : List (Nat × Value)} {pc n : Nat} {rest : List Value} (hC : Cx p s m args c cc nL own G tys A) {S : Type} {y : MethodName} {cy : ByteArray} {nl fr lo : Nat} {As : List Value} {W0 : va_W} {post : UInt64 → S → Prop} {W1 : S → va_W} {mc ms index k9 : Nat} (hM : MD S l y cy nl fr lo G tys As W0 post W1 mc ms) (hg : GoodIn zAW (va_wsS own index y (.code y cy nl (some .double) :: zAW))) (hd : y.cls ≠ "java/lang/invoke/MethodHandle" ∧ y.cls ≠ "java/lang/invoke/VarHandle" ∧ (parseMethodDescriptor y.desc).map (fun d => d.parameters.length) = some k9) (hdg : decode cc pc = .ok (.invokestatic index, 3)) (hR : fr + 1 ≤ R.frames ∧ 8 + (nl + 11) + lo ≤ R.locals) (is : List Nat) (hCw : is.map (fun i => ws[i]?) = W0.map some) (hnd : va_nd is = true) (hnA : As.length = k9) (hcat : (rest.map fun v => v.category).sum ≤ 8) (hf : cells + mc ≤ R.cells ∧ slots + ms ≤ R.slots) {ws2 : S → va_W} (js : List Nat) (hAw : ∀ u, is.map (fun i => (ws2 u)[i]?) = (W1 u).map some) (WR : va_W) (hBw : ∀ u, js.map (fun i => (ws2 u)[i]?) = WR.map some) (hBo : js.map (fun i => ws[i]?) = WR.map some) (hcv : ∀ u, (List.range (ws2 u).length).all (fun k => is.contains k || js.contains k) = true) (ads : List Nat) (hadr : ∀ u, (W1 u).map Prod.fst = ads) (hadr0 : W0.map Prod.fst = ads) (hn : pc + 3 = n) {st0 : List Value} (hst : As.reverse ++ rest = st0) (kk : ∀ (r : UInt64) (u : S), post r u → ZZ p l e R s m args below meth c G A nL (cells + mc) (slots + ms) Q (ws2 u) lv n (.double r :: rest)) : ZZ p l e R s m args below meth c G A nL cells slots Q ws lv pc st0 := by
  subst hn; subst hst
  intro H locs ls hP hD hS hl
  have hPc := wmap_P hP hCw
  have hDc := hD.sub is hnd hCw
  have hK := hC.2.2.2.2.2.1
  have hFc := va_free (wc := W0) hD hS hC.2.2.2.2.2.2.1 is hCw
  refine va_calld (va_runS (As := As) (rest := rest) (Ts := zAW) ⟨hC.1, hC.2.1, hC.2.2.1, hC.2.2.2.1, hC.2.2.2.2.1⟩ (hM H.size) (va_cwS k9 hC.2.2.2.2.1 hg rfl rfl rfl hd hR) ⟨fun a' U g mk q => ⟨q.1, cW_moved q.2⟩, fun U hU hW => ⟨rfl, by rw [hU], by rw [hU]; exact hPc, va_K.moved hW.alike hK, hDc.weaken (fun _ _ _ _ => trivial), zN_warm hW hC.2.2.2.2.2.2.2.1, zT_to hW hU hS hFc hC.2.2.2.2.2.2.2.2⟩⟩ rfl hnA hl.1 rfl (lv_room hcat) hdg hf) hS (fun q _ h => hFc q h) hFc (fun r u t H1 locs1 ht hvm hw hB hz1 hk1 hS1 => by
    obtain ⟨hP2, hD2⟩ := wput_ok hP hD hCw ((hadr u).trans hadr0.symm) (wget_of (hAw u) ((hBw u).trans hBo.symm) (hcv u)) hk1 (ht ▸ hB.1)
    exact kk r u hw H1 locs1 ls hP2 hD2 hS1 hl)
theorem z_callv {p : Program} {l : Launch} {e : Env} {R : Room} {s : State} {m : MethodId} {args : Array Value} {below : List Frame} {meth : Method} {c : Code} {cc : ByteArray} {nL : Nat} {own : String} {G : va_G} {tys : List (ClassId × FieldType)} {A : Nat → Prop} {cells slots : Nat} {Q : State → Prop} {ws : va_W} {lv : List (Nat × Value)} {pc n : Nat} {rest : List Value} (hC : Cx p s m args c cc nL own G tys A) {S : Type} {y : MethodName} {cy : ByteArray} {nl fr lo : Nat} {a : Nat} {As : List Value} {W0 : va_W} {post : S → Prop} {W1 : S → va_W} {mc ms index k9 : Nat} {C : String} (hM : MV S l y cy nl fr lo G tys (.ref a :: As) W0 post W1 mc ms) (hg : GoodIn zAW (wsV own index C y (.code y cy nl (none) :: zAW))) (hd : y.cls = C ∧ y.cls ≠ "java/lang/invoke/MethodHandle" ∧ y.cls ≠ "java/lang/invoke/VarHandle" ∧ (parseMethodDescriptor y.desc).map (fun d => d.parameters.length) = some k9) (hdg : decode cc pc = .ok (.invokevirtual index, 3)) (hR : fr + 1 ≤ R.frames ∧ 8 + (nl + 11) + lo ≤ R.locals) (q0 : Nat) {ci : Nat} {fs : List Value} {qc : vw_C} (hcl : vwCl[ci]? = some qc) (hqc : qc.1 = C) (he : W0[q0]? = some (a, .inr (ci, fs))) (is : List Nat) (hCw : is.map (fun i => ws[i]?) = W0.map some) (hnd : va_nd is = true) (hnA : As.length = k9) (hcat : (rest.map fun v => v.category).sum ≤ 8) (hf : cells + mc ≤ R.cells ∧ slots + ms ≤ R.slots) {ws2 : S → va_W} (js : List Nat) (hAw : ∀ u, is.map (fun i => (ws2 u)[i]?) = (W1 u).map some) (WR : va_W) (hBw : ∀ u, js.map (fun i => (ws2 u)[i]?) = WR.map some) (hBo : js.map (fun i => ws[i]?) = WR.map some) (hcv : ∀ u, (List.range (ws2 u).length).all (fun k => is.contains k || js.contains k) = true) (ads : List Nat) (hadr : ∀ u, (W1 u).map Prod.fst = ads) (hadr0 : W0.map Prod.fst = ads) (hn : pc + 3 = n) {st0 : List Value} (hst : As.reverse ++ .ref a :: rest = st0) (kk : ∀ (u : S), post u → ZZ p l e R s m args below meth c G A nL (cells + mc) (slots + ms) Q (ws2 u) lv n rest) : ZZ p l e R s m args below meth c G A nL cells slots Q ws lv pc st0 := by
  subst hn; subst hst
  intro H locs ls hP hD hS hl
  have hPc := wmap_P hP hCw
  have hDc := hD.sub is hnd hCw
  have hK := hC.2.2.2.2.2.1
  have hFc := va_free (wc := W0) hD hS hC.2.2.2.2.2.2.1 is hCw
  subst hqc
  refine va_callv (va_runV (C := qc.1) (As := As) (rest := rest) (Ts := zAW) ⟨hC.1, hC.2.1, hC.2.2.1, hC.2.2.2.1, hC.2.2.2.2.1⟩ (hM H.size) (cwV k9 hC.2.2.2.2.1 hg rfl rfl rfl hd hR) ⟨fun a' U g mk q => ⟨q.1, cW_moved q.2⟩, va_recv hK hPc hcl he, fun U hU hW => ⟨rfl, by rw [hU], by rw [hU]; exact hPc, va_K.moved hW.alike hK, hDc.weaken (fun _ _ _ _ => trivial), zN_warm hW hC.2.2.2.2.2.2.2.1, zT_to hW hU hS hFc hC.2.2.2.2.2.2.2.2⟩⟩ rfl hnA hl.1 rfl (lv_room hcat) hdg hf) hS (fun q _ h => hFc q h) hFc (fun u t H1 locs1 ht hvm hw hB hz1 hk1 hS1 => by
    obtain ⟨hP2, hD2⟩ := wput_ok hP hD hCw ((hadr u).trans hadr0.symm) (wget_of (hAw u) ((hBw u).trans hBo.symm) (hcv u)) hk1 (ht ▸ hB.1)
    exact kk u hw H1 locs1 ls hP2 hD2 hS1 hl)
theorem z_callsv {p : Program} {l : Launch} {e : Env} {R : Room} {s : State} {m : MethodId} {args : Array Value} {below : List Frame} {meth : Method} {c : Code} {cc : ByteArray} {nL : Nat} {own : String} {G : va_G} {tys : List (ClassId × FieldType)} {A : Nat → Prop} {cells slots : Nat} {Q : State → Prop} {ws : va_W} {lv : List (Nat × Value)} {pc n : Nat} {rest : List Value} (hC : Cx p s m args c cc nL own G tys A) {S : Type} {y : MethodName} {cy : ByteArray} {nl fr lo : Nat} {As : List Value} {W0 : va_W} {post : S → Prop} {W1 : S → va_W} {mc ms index k9 : Nat} (hM : MV S l y cy nl fr lo G tys As W0 post W1 mc ms) (hg : GoodIn zAW (va_wsS own index y (.code y cy nl (none) :: zAW))) (hd : y.cls ≠ "java/lang/invoke/MethodHandle" ∧ y.cls ≠ "java/lang/invoke/VarHandle" ∧ (parseMethodDescriptor y.desc).map (fun d => d.parameters.length) = some k9) (hdg : decode cc pc = .ok (.invokestatic index, 3)) (hR : fr + 1 ≤ R.frames ∧ 8 + (nl + 11) + lo ≤ R.locals) (is : List Nat) (hCw : is.map (fun i => ws[i]?) = W0.map some) (hnd : va_nd is = true) (hnA : As.length = k9) (hcat : (rest.map fun v => v.category).sum ≤ 8) (hf : cells + mc ≤ R.cells ∧ slots + ms ≤ R.slots) {ws2 : S → va_W} (js : List Nat) (hAw : ∀ u, is.map (fun i => (ws2 u)[i]?) = (W1 u).map some) (WR : va_W) (hBw : ∀ u, js.map (fun i => (ws2 u)[i]?) = WR.map some) (hBo : js.map (fun i => ws[i]?) = WR.map some) (hcv : ∀ u, (List.range (ws2 u).length).all (fun k => is.contains k || js.contains k) = true) (ads : List Nat) (hadr : ∀ u, (W1 u).map Prod.fst = ads) (hadr0 : W0.map Prod.fst = ads) (hn : pc + 3 = n) {st0 : List Value} (hst : As.reverse ++ rest = st0) (kk : ∀ (u : S), post u → ZZ p l e R s m args below meth c G A nL (cells + mc) (slots + ms) Q (ws2 u) lv n rest) : ZZ p l e R s m args below meth c G A nL cells slots Q ws lv pc st0 := by
  subst hn; subst hst
  intro H locs ls hP hD hS hl
  have hPc := wmap_P hP hCw
  have hDc := hD.sub is hnd hCw
  have hK := hC.2.2.2.2.2.1
  have hFc := va_free (wc := W0) hD hS hC.2.2.2.2.2.2.1 is hCw
  refine va_callv (va_runS (As := As) (rest := rest) (Ts := zAW) ⟨hC.1, hC.2.1, hC.2.2.1, hC.2.2.2.1, hC.2.2.2.2.1⟩ (hM H.size) (va_cwS k9 hC.2.2.2.2.1 hg rfl rfl rfl hd hR) ⟨fun a' U g mk q => ⟨q.1, cW_moved q.2⟩, fun U hU hW => ⟨rfl, by rw [hU], by rw [hU]; exact hPc, va_K.moved hW.alike hK, hDc.weaken (fun _ _ _ _ => trivial), zN_warm hW hC.2.2.2.2.2.2.2.1, zT_to hW hU hS hFc hC.2.2.2.2.2.2.2.2⟩⟩ rfl hnA hl.1 rfl (lv_room hcat) hdg hf) hS (fun q _ h => hFc q h) hFc (fun u t H1 locs1 ht hvm hw hB hz1 hk1 hS1 => by
    obtain ⟨hP2, hD2⟩ := wput_ok hP hD hCw ((hadr u).trans hadr0.symm) (wget_of (hAw u) ((hBw u).trans hBo.symm) (hcv u)) hk1 (ht ▸ hB.1)
    exact kk u hw H1 locs1 ls hP2 hD2 hS1 hl)
