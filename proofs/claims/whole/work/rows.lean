section
-- ===== PART A: goes FIRST, ahead of the names: the tables' words, and 'selects' of the private methods out of them =====
/-- a private method of a class that the tables say can be made, by its rows of tables_1 -/
def lw_okq (q : MethodName × Nat) : Prop := (q.1.cls ≠ "java/lang/invoke/MethodHandle" ∧ q.1.cls ≠ "java/lang/invoke/VarHandle") ∧ Cond.instantiable q.1.cls q.2 ∈ tables_1 ∧ Cond.privateMethod q.1 ∈ tables_1 ∧ Cond.instanceMethod q.1 ∈ tables_1
theorem lw_p0 : lw_okq (⟨"java/lang/Throwable", "fillInStackTrace", "(I)Ljava/lang/Throwable;"⟩, 6) := ⟨⟨by decide +kernel, by decide +kernel⟩, List.mem_of_getElem? (i := 217) (by decide +kernel), List.mem_of_getElem? (i := 215) (by decide +kernel), List.mem_of_getElem? (i := 216) (by decide +kernel)⟩
theorem lw_p1 : lw_okq (⟨"ClayTraps", "checkGun", "(I)V"⟩, 4) := ⟨⟨by decide +kernel, by decide +kernel⟩, List.mem_of_getElem? (i := 15) (by decide +kernel), List.mem_of_getElem? (i := 332) (by decide +kernel), List.mem_of_getElem? (i := 333) (by decide +kernel)⟩
theorem lw_p2 : lw_okq (⟨"ClayTraps", "scoreWithRest", "(II)I"⟩, 4) := ⟨⟨by decide +kernel, by decide +kernel⟩, List.mem_of_getElem? (i := 15) (by decide +kernel), List.mem_of_getElem? (i := 381) (by decide +kernel), List.mem_of_getElem? (i := 382) (by decide +kernel)⟩
theorem lw_p3 : lw_okq (⟨"ClayTrapsModel", "no", "(I)I"⟩, 8) := ⟨⟨by decide +kernel, by decide +kernel⟩, List.mem_of_getElem? (i := 522) (by decide +kernel), List.mem_of_getElem? (i := 564) (by decide +kernel), List.mem_of_getElem? (i := 565) (by decide +kernel)⟩
theorem lw_p4 : lw_okq (⟨"ClayTrapsModel", "isGun", "(I)Z"⟩, 8) := ⟨⟨by decide +kernel, by decide +kernel⟩, List.mem_of_getElem? (i := 522) (by decide +kernel), List.mem_of_getElem? (i := 576) (by decide +kernel), List.mem_of_getElem? (i := 577) (by decide +kernel)⟩
theorem lw_p5 : lw_okq (⟨"ClayTrapsModel", "missed", "()I"⟩, 8) := ⟨⟨by decide +kernel, by decide +kernel⟩, List.mem_of_getElem? (i := 522) (by decide +kernel), List.mem_of_getElem? (i := 584) (by decide +kernel), List.mem_of_getElem? (i := 585) (by decide +kernel)⟩
theorem lw_p6 : lw_okq (⟨"ClayTrapsModel", "turnsOn", "(I)V"⟩, 8) := ⟨⟨by decide +kernel, by decide +kernel⟩, List.mem_of_getElem? (i := 522) (by decide +kernel), List.mem_of_getElem? (i := 588) (by decide +kernel), List.mem_of_getElem? (i := 589) (by decide +kernel)⟩
theorem lw_p7 : lw_okq (⟨"ClayTrapsModel", "turnOn", "()V"⟩, 8) := ⟨⟨by decide +kernel, by decide +kernel⟩, List.mem_of_getElem? (i := 522) (by decide +kernel), List.mem_of_getElem? (i := 592) (by decide +kernel), List.mem_of_getElem? (i := 593) (by decide +kernel)⟩
theorem lw_p8 : lw_okq (⟨"ClayTrapsModel", "shoot", "(I)V"⟩, 8) := ⟨⟨by decide +kernel, by decide +kernel⟩, List.mem_of_getElem? (i := 522) (by decide +kernel), List.mem_of_getElem? (i := 596) (by decide +kernel), List.mem_of_getElem? (i := 597) (by decide +kernel)⟩
theorem lw_p9 : lw_okq (⟨"ClayTrapsModel", "hit", "(I)I"⟩, 8) := ⟨⟨by decide +kernel, by decide +kernel⟩, List.mem_of_getElem? (i := 522) (by decide +kernel), List.mem_of_getElem? (i := 600) (by decide +kernel), List.mem_of_getElem? (i := 601) (by decide +kernel)⟩
theorem lw_p10 : lw_okq (⟨"ClayTrapsModel", "far", "(I)I"⟩, 8) := ⟨⟨by decide +kernel, by decide +kernel⟩, List.mem_of_getElem? (i := 522) (by decide +kernel), List.mem_of_getElem? (i := 604) (by decide +kernel), List.mem_of_getElem? (i := 605) (by decide +kernel)⟩
theorem lw_p11 : lw_okq (⟨"ClayTrapsModel", "stand", "(I)I"⟩, 8) := ⟨⟨by decide +kernel, by decide +kernel⟩, List.mem_of_getElem? (i := 522) (by decide +kernel), List.mem_of_getElem? (i := 608) (by decide +kernel), List.mem_of_getElem? (i := 609) (by decide +kernel)⟩
theorem lw_p12 : lw_okq (⟨"ClayTrapsModel", "clay", "()I"⟩, 8) := ⟨⟨by decide +kernel, by decide +kernel⟩, List.mem_of_getElem? (i := 522) (by decide +kernel), List.mem_of_getElem? (i := 612) (by decide +kernel), List.mem_of_getElem? (i := 613) (by decide +kernel)⟩
theorem lw_p13 : lw_okq (⟨"ClayTrapsModel", "at", "(II)I"⟩, 8) := ⟨⟨by decide +kernel, by decide +kernel⟩, List.mem_of_getElem? (i := 522) (by decide +kernel), List.mem_of_getElem? (i := 616) (by decide +kernel), List.mem_of_getElem? (i := 617) (by decide +kernel)⟩
theorem lw_p14 : lw_okq (⟨"ClayTrapsModel", "win", "()I"⟩, 8) := ⟨⟨by decide +kernel, by decide +kernel⟩, List.mem_of_getElem? (i := 522) (by decide +kernel), List.mem_of_getElem? (i := 626) (by decide +kernel), List.mem_of_getElem? (i := 627) (by decide +kernel)⟩
theorem lw_p15 : lw_okq (⟨"ClayTrapsModel", "best", "()I"⟩, 8) := ⟨⟨by decide +kernel, by decide +kernel⟩, List.mem_of_getElem? (i := 522) (by decide +kernel), List.mem_of_getElem? (i := 630) (by decide +kernel), List.mem_of_getElem? (i := 631) (by decide +kernel)⟩
def lw_privs_1 : List (MethodName × Nat) := [(⟨"java/lang/Throwable", "fillInStackTrace", "(I)Ljava/lang/Throwable;"⟩, 6), (⟨"ClayTraps", "checkGun", "(I)V"⟩, 4), (⟨"ClayTraps", "scoreWithRest", "(II)I"⟩, 4), (⟨"ClayTrapsModel", "no", "(I)I"⟩, 8), (⟨"ClayTrapsModel", "isGun", "(I)Z"⟩, 8), (⟨"ClayTrapsModel", "missed", "()I"⟩, 8), (⟨"ClayTrapsModel", "turnsOn", "(I)V"⟩, 8), (⟨"ClayTrapsModel", "turnOn", "()V"⟩, 8), (⟨"ClayTrapsModel", "shoot", "(I)V"⟩, 8), (⟨"ClayTrapsModel", "hit", "(I)I"⟩, 8), (⟨"ClayTrapsModel", "far", "(I)I"⟩, 8), (⟨"ClayTrapsModel", "stand", "(I)I"⟩, 8), (⟨"ClayTrapsModel", "clay", "()I"⟩, 8), (⟨"ClayTrapsModel", "at", "(II)I"⟩, 8), (⟨"ClayTrapsModel", "win", "()I"⟩, 8), (⟨"ClayTrapsModel", "best", "()I"⟩, 8)]
theorem lw_r1 : ∀ q ∈ lw_privs_1, lw_okq q := List.forall_mem_cons.mpr ⟨lw_p0, List.forall_mem_cons.mpr ⟨lw_p1, List.forall_mem_cons.mpr ⟨lw_p2, List.forall_mem_cons.mpr ⟨lw_p3, List.forall_mem_cons.mpr ⟨lw_p4, List.forall_mem_cons.mpr ⟨lw_p5, List.forall_mem_cons.mpr ⟨lw_p6, List.forall_mem_cons.mpr ⟨lw_p7, List.forall_mem_cons.mpr ⟨lw_p8, List.forall_mem_cons.mpr ⟨lw_p9, List.forall_mem_cons.mpr ⟨lw_p10, List.forall_mem_cons.mpr ⟨lw_p11, List.forall_mem_cons.mpr ⟨lw_p12, List.forall_mem_cons.mpr ⟨lw_p13, List.forall_mem_cons.mpr ⟨lw_p14, List.forall_mem_cons.mpr ⟨lw_p15, fun _ h => absurd h List.not_mem_nil⟩⟩⟩⟩⟩⟩⟩⟩⟩⟩⟩⟩⟩⟩⟩⟩
theorem lw_p16 : lw_okq (⟨"ClayTrapsModel", "first", "()I"⟩, 8) := ⟨⟨by decide +kernel, by decide +kernel⟩, List.mem_of_getElem? (i := 522) (by decide +kernel), List.mem_of_getElem? (i := 634) (by decide +kernel), List.mem_of_getElem? (i := 635) (by decide +kernel)⟩
theorem lw_p17 : lw_okq (⟨"ClayTrapsModel", "ok", "(I)I"⟩, 8) := ⟨⟨by decide +kernel, by decide +kernel⟩, List.mem_of_getElem? (i := 522) (by decide +kernel), List.mem_of_getElem? (i := 648) (by decide +kernel), List.mem_of_getElem? (i := 649) (by decide +kernel)⟩
theorem lw_p18 : lw_okq (⟨"ClayTrapsModel", "hardest", "(I)I"⟩, 8) := ⟨⟨by decide +kernel, by decide +kernel⟩, List.mem_of_getElem? (i := 522) (by decide +kernel), List.mem_of_getElem? (i := 664) (by decide +kernel), List.mem_of_getElem? (i := 665) (by decide +kernel)⟩
theorem lw_p19 : lw_okq (⟨"ClayTrapsModel", "ofGun", "(II)I"⟩, 8) := ⟨⟨by decide +kernel, by decide +kernel⟩, List.mem_of_getElem? (i := 522) (by decide +kernel), List.mem_of_getElem? (i := 684) (by decide +kernel), List.mem_of_getElem? (i := 685) (by decide +kernel)⟩
theorem lw_p20 : lw_okq (⟨"ClayTrapsModel", "rank", "(I)I"⟩, 8) := ⟨⟨by decide +kernel, by decide +kernel⟩, List.mem_of_getElem? (i := 522) (by decide +kernel), List.mem_of_getElem? (i := 716) (by decide +kernel), List.mem_of_getElem? (i := 717) (by decide +kernel)⟩
theorem lw_p21 : lw_okq (⟨"ClayTrapsModel", "keep", "()V"⟩, 8) := ⟨⟨by decide +kernel, by decide +kernel⟩, List.mem_of_getElem? (i := 522) (by decide +kernel), List.mem_of_getElem? (i := 724) (by decide +kernel), List.mem_of_getElem? (i := 725) (by decide +kernel)⟩
theorem lw_p22 : lw_okq (⟨"ClayTrapsModel", "bringBack", "()V"⟩, 8) := ⟨⟨by decide +kernel, by decide +kernel⟩, List.mem_of_getElem? (i := 522) (by decide +kernel), List.mem_of_getElem? (i := 731) (by decide +kernel), List.mem_of_getElem? (i := 732) (by decide +kernel)⟩
theorem lw_p23 : lw_okq (⟨"ClayTrapsModel", "untilMiss", "(I)I"⟩, 8) := ⟨⟨by decide +kernel, by decide +kernel⟩, List.mem_of_getElem? (i := 522) (by decide +kernel), List.mem_of_getElem? (i := 739) (by decide +kernel), List.mem_of_getElem? (i := 740) (by decide +kernel)⟩
theorem lw_p24 : lw_okq (⟨"ClayTrapsModel", "firstIn", "(I)I"⟩, 8) := ⟨⟨by decide +kernel, by decide +kernel⟩, List.mem_of_getElem? (i := 522) (by decide +kernel), List.mem_of_getElem? (i := 747) (by decide +kernel), List.mem_of_getElem? (i := 748) (by decide +kernel)⟩
theorem lw_p25 : lw_okq (⟨"ClayTrapsModel", "winner", "()I"⟩, 8) := ⟨⟨by decide +kernel, by decide +kernel⟩, List.mem_of_getElem? (i := 522) (by decide +kernel), List.mem_of_getElem? (i := 755) (by decide +kernel), List.mem_of_getElem? (i := 756) (by decide +kernel)⟩
theorem lw_p26 : lw_okq (⟨"ClayTrapsModel", "restFor", "(I)I"⟩, 8) := ⟨⟨by decide +kernel, by decide +kernel⟩, List.mem_of_getElem? (i := 522) (by decide +kernel), List.mem_of_getElem? (i := 763) (by decide +kernel), List.mem_of_getElem? (i := 764) (by decide +kernel)⟩
def lw_privs_2 : List (MethodName × Nat) := [(⟨"ClayTrapsModel", "first", "()I"⟩, 8), (⟨"ClayTrapsModel", "ok", "(I)I"⟩, 8), (⟨"ClayTrapsModel", "hardest", "(I)I"⟩, 8), (⟨"ClayTrapsModel", "ofGun", "(II)I"⟩, 8), (⟨"ClayTrapsModel", "rank", "(I)I"⟩, 8), (⟨"ClayTrapsModel", "keep", "()V"⟩, 8), (⟨"ClayTrapsModel", "bringBack", "()V"⟩, 8), (⟨"ClayTrapsModel", "untilMiss", "(I)I"⟩, 8), (⟨"ClayTrapsModel", "firstIn", "(I)I"⟩, 8), (⟨"ClayTrapsModel", "winner", "()I"⟩, 8), (⟨"ClayTrapsModel", "restFor", "(I)I"⟩, 8)]
theorem lw_r2 : ∀ q ∈ lw_privs_2, lw_okq q := List.forall_mem_cons.mpr ⟨lw_p16, List.forall_mem_cons.mpr ⟨lw_p17, List.forall_mem_cons.mpr ⟨lw_p18, List.forall_mem_cons.mpr ⟨lw_p19, List.forall_mem_cons.mpr ⟨lw_p20, List.forall_mem_cons.mpr ⟨lw_p21, List.forall_mem_cons.mpr ⟨lw_p22, List.forall_mem_cons.mpr ⟨lw_p23, List.forall_mem_cons.mpr ⟨lw_p24, List.forall_mem_cons.mpr ⟨lw_p25, List.forall_mem_cons.mpr ⟨lw_p26, fun _ h => absurd h List.not_mem_nil⟩⟩⟩⟩⟩⟩⟩⟩⟩⟩⟩
def lw_privs : List (MethodName × Nat) := lw_privs_1 ++ (lw_privs_2)
def lw_tbl : List Cond := k2_sels lw_privs ++ tables_1
theorem lw_privs_ok : ∀ q ∈ lw_privs, lw_okq q := by
  show ∀ q ∈ lw_privs_1 ++ (lw_privs_2), lw_okq q
  exact List.forall_mem_append.mpr ⟨lw_r1, lw_r2⟩
/-- the streams that the claim lets the run draw from -/
abbrev lw_cs : List Choice := [Jvm.Choice.named "NaN.bits"]
theorem lw_bits : nanBits ∈ lw_cs := by first | decide | exact List.mem_cons_self | simp [lw_cs, nanBits]
end
section
/-! ===== BEGIN words of one list among another's, by their places ===== -/
theorem goodIn_r {big : List Cond} (ws : List Cond) (ps : List Nat) (hp : ws = ps.filterMap (fun i => big[i]?)) (h : ws.all goodWord = true) : GoodIn big ws := by
  intro w hw
  have h1 := List.all_eq_true.mp h w hw
  rw [hp] at hw
  obtain ⟨i, -, hi⟩ := List.mem_filterMap.mp hw
  have hm : w ∈ big := by first | exact List.mem_of_getElem? hi | exact List.getElem?_mem hi
  exact ⟨hm, good_of_word h1⟩
theorem goodIn_app {big a b : List Cond} (ha : GoodIn big a) (hb : GoodIn big b) : GoodIn big (a ++ b) := fun w h => (List.mem_append.mp h).elim (ha w) (hb w)
theorem goodIn_ca {big a b : List Cond} {c : Cond} (ha : GoodIn big (c :: a)) (hb : GoodIn big b) : GoodIn big (c :: (a ++ b)) := fun w h => (List.mem_cons.mp h).elim (fun e => ha w (List.mem_cons.mpr (Or.inl e))) (fun h => (List.mem_append.mp h).elim (fun h => ha w (List.mem_cons.mpr (Or.inr h))) (hb w))
theorem goodIn_sub {big ws : List Cond} (hm : ∀ w ∈ ws, w ∈ big) (h : ws.all goodWord = true) : GoodIn big ws := fun w hw => ⟨hm w hw, good_of_word (List.all_eq_true.mp h w hw)⟩
/-! ===== END ===== -/

/-! ===== BEGIN exceptions that leave a method, and their catching by the caller (launches without stack traces) ===== -/
section VXA
/-! The laws vx_back, vx_callV, vx_callS, vx_callSW, vx_throw0, vx_throwS follow proofs of the library, with one case more: JvmDerived/Free/Laws.lean (Back.of_free), Shelf42/LK1.lean (callV, callS), Shelf/KitTraced.lean (throwNew0V, throwNewS). -/
/-- where a method has thrown q: the class by its name, the cell, what was written, the world -/
def vx_T (XC : String → State → State → Prop) (st : State) (q : Addr) (t : State) (mc ms : Nat) (free : Addr → Prop) : Prop :=
  ∃ (E : String) (ce : Cell) (L : List Loc), XC E st t ∧ t.heap[q]? = some ce ∧ ce.vm = .none ∧ st.vm.findClass E = some ce.cls ∧ st.WarmedH t.vm ∧ st.sameButNew ({ t with vm := st.vm } : State) L mc ms ∧ ∀ z ∈ L, free z.base
def vx_Q (Qc : Array Value → State → Outcome → State → Prop) (XC : String → State → State → Prop) (mc ms : Nat) (free : Addr → Prop) : Array Value → State → Outcome → State → Prop := fun a st o t =>
  (Qc a st o t ∧ ∃ L, FrameEnd st o t L mc ms ∧ ∀ q ∈ L, free q.base) ∨ ∃ q, o = .threw q ∧ vx_T XC st q t mc ms free
/-- a callee that returns or throws -/
def vx_Met (l : Launch) (y : MethodName) (ws : List Cond) (rm : Room) (Pc : Array Value → State → Prop) (Qc : Array Value → State → Outcome → State → Prop) (XC : String → State → State → Prop) (mc ms : Nat) (free : Addr → Prop) : Prop :=
  MetFree l y (headSpec ws rm) Pc (fun _ _ _ _ _ => True) (vx_Q Qc XC mc ms free)
def vx_Post (XC : String → State → State → Prop) (mc ms : Nat) (free : Addr → Prop) : Pt → Array Value → Addr → Pt → Prop := fun A a q B =>
  ∃ (g : JFrame) (mk : MethodId) (t : State) (L : List Loc) (E : String) (ce : Cell), B.U.heap = t.heap ∧ B.U.vm = t.vm ∧ XC E (A.U.calling g mk a) t ∧ t.heap[q]? = some ce ∧ ce.vm = .none ∧ A.U.vm.findClass E = some ce.cls ∧ B.locs = A.locs ++ L ∧ (∀ z ∈ L, free z.base) ∧ B.cells = A.cells + mc ∧ B.slots = A.slots + ms
def vx_Back (l : Launch) (R : Room) (p : Program) (e : Env) (below : List Frame) (s : State) (sargs : Array Value) (y : MethodName) (len W9 : Nat)
    (Pre : Pt → Array Value → Prop) (Post : Pt → Array Value → Option Value → Pt → Prop) (PostX : Pt → Array Value → Addr → Pt → Prop) : Prop :=
  ∀ (m : MethodId) (meth : Method) (c : Code) (A : Pt) (g : JFrame) (ig : Instr) (mk : MethodId) (a : Array Value),
    Stand p l e R s m sargs below meth c A.U A.locs A.cells A.slots → g.method = m → g.locals.size = c.maxLocals → decode c.code g.pc = .ok (ig, len) →
    2 * g.monitorRoom + (g.stack.map fun v => v.category).sum ≤ W9 → A.U.methodNamed? y = some mk → Pre A a →
    (∃ (v : Option Value) (B : Pt), Stand p l e R s m sargs below meth c B.U B.locs B.cells B.slots ∧ Post A a v B ∧
      Steps p.tables e below (doInvoke e (A.U.setTop g) [] mk a).1 (B.U.setTop { g with pc := g.pc + len, stack := v.toList ++ g.stack })) ∨
    (∃ (q : Addr) (B : Pt), Stand p l e R s m sargs below meth c B.U B.locs B.cells B.slots ∧ PostX A a q B ∧
      Steps p.tables e below (doInvoke e (A.U.setTop g) [] mk a).1 ((B.U.setTop g).pushFrame (.throwing q)))
section Payer
variable {l : Launch} {R : Room} {p : Program} {e : Env} {below : List Frame} {s : State} {sargs : Array Value} {y : MethodName} {len W9 : Nat}
theorem vx_back {ws : List Cond} {rm : Room} {Pc : Array Value → State → Prop} {Qc : Array Value → State → Outcome → State → Prop} {XC : String → State → State → Prop} {mc ms : Nat} {free : Addr → Prop} {bytes : ByteArray} {maxL : Nat} {ret : Option FieldType}
    (hM : vx_Met l y ws rm Pc Qc XC mc ms free) (hblind : FrameBlind Pc) (hrc : rm.cells = mc) (hrs : rm.slots = ms)
    (hframes : rm.frames + 1 ≤ R.frames) (hlocals : W9 + (maxL + 11) + rm.locals ≤ R.locals)
    (hws : ∀ w ∈ ws, ∀ a' U, s.WarmedH U.vm → w.before a' U = true) (hcode : Cond.code y bytes maxL ret ∈ ws) (hinit : ∀ a' U, s.WarmedH U.vm → (Cond.initialized y.cls).before a' U = true) :
    vx_Back l R p e below s sargs y len W9 (PreOf R mc ms Pc) (PostOf Qc mc ms free) (vx_Post XC mc ms free) := by
  intro m meth c A g ig mk a X hg hsize hdg hW hn hp
  have h1 : (headSpec ws rm).pre.before a A.U = true := atoms_intro fun w hw => hws w hw _ _ X.warmed
  have h2 : (Cond.code y bytes maxL ret).before a A.U = true := hws _ hcode _ _ X.warmed
  have h3 : (Cond.initialized y.cls).before a A.U = true := hinit _ _ X.warmed
  have h4 : A.cells + (headSpec ws rm).room.cells ≤ R.cells := by rw [show (headSpec ws rm).room.cells = mc from hrc]; exact hp.1
  have h5 : A.slots + (headSpec ws rm).room.slots ≤ R.slots := by rw [show (headSpec ws rm).room.slots = ms from hrs]; exact hp.2.1
  have hPc : Pc a (A.U.calling g mk a) := hblind _ _ _ _ hp.2.2
  obtain ⟨U, Ls, c0, s0⟩ := A
  dsimp only [Pt.U, Pt.locs, Pt.cells, Pt.slots] at h1 h2 h3 h4 h5 X hn hPc ⊢
  obtain ⟨methY, cY, hmY, hcY, -, hlY, -, -, -, -⟩ := Cond.code_spec hn h2
  obtain ⟨kY, hkY, -⟩ := className_of_methodNamed hn
  have hinitY : kY.init = .initialized := Cond.initialized_spec (findClass_of_methodNamed hn) hkY h3
  have h : At U g.method c below := by rw [hg]; exact X.here
  have hlocals9 : W9 + (maxL + 11) + (headSpec ws rm).room.locals ≤ R.locals := hlocals
  have happ : (headSpec ws rm).appliesLoose y e.platform (U.calling g mk a) = true :=
    Spec.appliesLoose_calling (g := g) h hdg hn hkY hinitY
      (X.room_calling (g := g) (R' := (headSpec ws rm).room) hsize hmY hcY hframes (by rw [hlY]; omega) h4 h5) h1
  obtain ⟨mid, hmid⟩ := h.above
  have hfr : (U.setTop g).frames = (.java g :: mid) ++ below := by rw [State.frames_setTop' g h.top, hmid]; rfl
  obtain ⟨o, s₂, hsteps, -, hend, hq⟩ := Steps.callFree hM p X.admits X.cas X.clock (acts := []) hfr happ hPc trivial
  have hq' : vx_Q Qc XC mc ms free a (U.calling g mk a) o s₂ := hq
  rw [State.frames_setTop' g h.top] at hend
  obtain ⟨g₀, hg0⟩ := Option.isSome_iff_exists.mp h.top
  obtain ⟨r, hr⟩ := State.topJava?_eq_some.mp hg0
  have hr' : (({ U with heap := s₂.heap, slotsUsed := s₂.slotsUsed } : State).setVm s₂.vm).frames = .java g₀ :: r := hr
  rcases hq' with ⟨hqc, L, hfe, hL⟩ | ⟨q, rfl, E, ce, L, hx, hce, hcv, hcl, hW₂, hsm, hL⟩
  · obtain ⟨⟨v, rfl⟩, hW₂, e2, q2, q3, q4, q5, q6⟩ := id hfe
    have e3 : s₂ = ({ (U.calling g mk a).setFrames s₂.frames with heap := s₂.heap, slotsUsed := s₂.slotsUsed } : State).setVm s₂.vm := by
      have : s₂ = ({ s₂ with vm := (U.calling g mk a).vm } : State).setVm s₂.vm := rfl
      rw [e2] at this
      exact this
    obtain ⟨c₂, i₂, len₂, hc₂, hd₂, hf₂⟩ := hend
    have hW' : U.WarmedH s₂.vm := hW₂
    have hcc : c₂ = c := by
      have h1 : s₂.code? g.method = U.code? g.method := by
        rw [State.code?_eq, State.code?_eq, hW'.alike.method?]
      exact Option.some.inj (hc₂.symm.trans (h1.trans h.code))
    subst hcc
    have hlen : len₂ = len := by rw [hdg] at hd₂; cases hd₂; rfl
    subst hlen
    have hs₂ : s₂ = (({ U with heap := s₂.heap, slotsUsed := s₂.slotsUsed } : State).setVm s₂.vm).setTop { g with pc := g.pc + len₂, stack := v.toList ++ g.stack } := by
      refine e3.trans ?_
      rw [hf₂, State.calling_eq h.top, State.setFrames_setFrames, State.setTop_of_frames _ hr', hr]
      rfl
    have hsame : U.sameButNew ({ U with heap := s₂.heap, slotsUsed := s₂.slotsUsed } : State) L mc ms := by
      refine ⟨?_, q2, q3, q4, q5, q6⟩
      obtain ⟨t, ht, -⟩ := State.frames_cons hr
      show ({ U with heap := s₂.heap, slotsUsed := s₂.slotsUsed } : State) = { U.setFrames U.frames with heap := s₂.heap, slotsUsed := s₂.slotsUsed }
      rw [State.setFrames_self ht]
    subst hg
    refine Or.inl ⟨v, ⟨(({ U with heap := s₂.heap, slotsUsed := s₂.slotsUsed } : State).setVm s₂.vm), Ls ++ L, c0 + mc, s0 + ms⟩,
      ⟨X.admits, X.cas, X.clock, X.frames, X.room, X.hears, X.method, X.code, (X.here.setHeapUsed s₂.heap s₂.slotsUsed).setVm hW'.alike, X.tail, State.WarmedH.trans X.warmed hW', X.limits, X.bytes, X.same.trans (hsame.setVm s.vm)⟩,
      ⟨g, mk, s₂, L, rfl, rfl, hqc, rfl, hL, rfl, rfl⟩, ?_⟩
    show Steps p.tables e below _ ((({ U with heap := s₂.heap, slotsUsed := s₂.slotsUsed } : State).setVm s₂.vm).setTop { g with pc := g.pc + len₂, stack := v.toList ++ g.stack })
    rw [← hs₂]
    exact hsteps
  · obtain ⟨e2, q2, q3, q4, q5, q6⟩ := id hsm
    have e3 : s₂ = ({ (U.calling g mk a).setFrames s₂.frames with heap := s₂.heap, slotsUsed := s₂.slotsUsed } : State).setVm s₂.vm := by
      have : s₂ = ({ s₂ with vm := (U.calling g mk a).vm } : State).setVm s₂.vm := rfl
      rw [e2] at this
      exact this
    have hf₂ : s₂.frames = .throwing q :: .java g :: U.frames.tail := hend
    have hW' : U.WarmedH s₂.vm := hW₂
    have hs₂ : s₂ = ((({ U with heap := s₂.heap, slotsUsed := s₂.slotsUsed } : State).setVm s₂.vm).setTop g).pushFrame (.throwing q) := by
      refine e3.trans ?_
      rw [hf₂, State.calling_eq h.top, State.setFrames_setFrames, State.pushFrame, State.frames_setTop _ hr', State.setTop_of_frames _ hr', State.setFrames_setFrames, hr]
      rfl
    have hsame : U.sameButNew ({ U with heap := s₂.heap, slotsUsed := s₂.slotsUsed } : State) L mc ms := by
      refine ⟨?_, q2, q3, q4, q5, q6⟩
      obtain ⟨t, ht, -⟩ := State.frames_cons hr
      show ({ U with heap := s₂.heap, slotsUsed := s₂.slotsUsed } : State) = { U.setFrames U.frames with heap := s₂.heap, slotsUsed := s₂.slotsUsed }
      rw [State.setFrames_self ht]
    subst hg
    refine Or.inr ⟨q, ⟨(({ U with heap := s₂.heap, slotsUsed := s₂.slotsUsed } : State).setVm s₂.vm), Ls ++ L, c0 + mc, s0 + ms⟩,
      ⟨X.admits, X.cas, X.clock, X.frames, X.room, X.hears, X.method, X.code, (X.here.setHeapUsed s₂.heap s₂.slotsUsed).setVm hW'.alike, X.tail, State.WarmedH.trans X.warmed hW', X.limits, X.bytes, X.same.trans (hsame.setVm s.vm)⟩,
      ⟨g, mk, s₂, L, E, ce, rfl, rfl, hx, hce, hcv, hcl, rfl, hL, rfl, rfl⟩, ?_⟩
    show Steps p.tables e below _ (((({ U with heap := s₂.heap, slotsUsed := s₂.slotsUsed } : State).setVm s₂.vm).setTop g).pushFrame (.throwing q))
    rw [← hs₂]
    exact hsteps
end Payer
section Calls
variable {p : Program} {l : Launch} {e : Env} {R : Room} {s : State} {m : MethodId} {args : Array Value} {below : List Frame} {meth : Method} {c : Code} {T : State} {locs : List Loc} {cells slots : Nat}
theorem vx_callV (X : Stand p l e R s m args below meth c T locs cells slots) (hexec : p.tables.exec = Jvm.exec) {own C : String} {index : Nat} {y : MethodName} {bytes : ByteArray} {maxL : Nat} {ret : Option FieldType}
    (hown : s.vm.findClass own = some m.cls) (hlink : (Cond.methodLink own index y).before args s = true) (hinst : (Cond.instanceMethod y).before args s = true) (hsel : (Cond.selects C y y).before args s = true)
    (hcode : (Cond.code y bytes maxL ret).before args s = true) (hy : y.cls ≠ "java/lang/invoke/MethodHandle" ∧ y.cls ≠ "java/lang/invoke/VarHandle")
    {W9 : Nat} {Pre : Pt → Array Value → Prop} {Post : Pt → Array Value → Option Value → Pt → Prop} {PostX : Pt → Array Value → Addr → Pt → Prop} (hK : vx_Back l R p e below s args y 3 W9 Pre Post PostX)
    {b : Addr} {cellB : Cell} (hcell : T.heap[b]? = some cellB) (hobj : cellB.vm.isStatics = false) (hcls : s.vm.findClass C = some cellB.cls)
    {g : JFrame} (hg : g.method = m) (hsize : g.locals.size = c.maxLocals) {argsL rest : List Value} (hlen : ∀ sig, parseMethodDescriptor y.desc = some sig → argsL.length = sig.parameters.length)
    (hstack : g.stack = argsL.reverse ++ .ref b :: rest) (hW : 2 * g.monitorRoom + (rest.map fun v => v.category).sum ≤ W9) (hdg : decode c.code g.pc = .ok (.invokevirtual index, 3))
    (hpre : ∀ vm₁, s.WarmedH vm₁ → Pre ⟨T.setVm vm₁, locs, cells, slots⟩ (Value.ref b :: argsL).toArray) :
    (∃ (v : Option Value) (vm₁ : Vm) (B : Pt), s.WarmedH vm₁ ∧ Stand p l e R s m args below meth c B.U B.locs B.cells B.slots ∧ Post ⟨T.setVm vm₁, locs, cells, slots⟩ (Value.ref b :: argsL).toArray v B ∧
      ∀ target, Steps p.tables e below (B.U.setTop { g with pc := g.pc + 3, stack := v.toList ++ rest }) target → Steps p.tables e below (T.setTop g) target) ∨
    (∃ (q : Addr) (vm₁ : Vm) (B : Pt), s.WarmedH vm₁ ∧ Stand p l e R s m args below meth c B.U B.locs B.cells B.slots ∧ PostX ⟨T.setVm vm₁, locs, cells, slots⟩ (Value.ref b :: argsL).toArray q B ∧
      Steps p.tables e below (T.setTop g) ((B.U.setTop { g with stack := rest }).pushFrame (.throwing q))) := by
  obtain ⟨mk, methM, hnamed, hmethM, hstM, habM⟩ := Cond.instanceMethod_spec hinst
  obtain ⟨methM', cM, hmethM', -, -, -, -, -, -, hsigM⟩ := Cond.code_spec hnamed hcode
  cases hmethM.symm.trans hmethM'
  obtain ⟨c2, r2, m2, q1, q2, q3, q4, kP, hkP, hkPi⟩ := Cond.selects_spec hsel
  cases hcls.symm.trans q1
  cases (State.methodFound?_of_named hnamed hy).symm.trans q2
  cases hnamed.symm.trans q3
  have hselP : selectMethod e.platform s.vm cellB.cls mk = .method mk := by rw [Launch.admits_selectMethod X.admits]; exact q4
  obtain ⟨vm₁, X₁, hstep₁⟩ := X.invokevirtual hexec hown hlink hnamed hmethM hstM hkP hkPi hy (a := b) (cell := cellB) hcell
    (fun z h => by rw [h] at hobj; cases hobj) hselP hmethM habM hkP hkPi (g := g) hg (argsL := argsL) (rest := rest) (hlen _ hsigM) hstack hdg
  rcases hK m meth c ⟨T.setVm vm₁, locs, cells, slots⟩ { g with stack := rest } (.invokevirtual index) mk (Value.ref b :: argsL).toArray X₁ hg hsize hdg hW (X₁.named hnamed) (hpre vm₁ X₁.warmed) with ⟨v, B, X', hpost, hsteps⟩ | ⟨q, B, X', hpost, hsteps⟩
  · exact Or.inl ⟨v, vm₁, B, X₁.warmed, X', hpost, fun target h => hstep₁ _ fun acts => by rw [doInvoke_state]; exact hsteps.trans h⟩
  · exact Or.inr ⟨q, vm₁, B, X₁.warmed, X', hpost, hstep₁ _ fun acts => by rw [doInvoke_state]; exact hsteps⟩
theorem vx_callS (X : Stand p l e R s m args below meth c T locs cells slots) (hexec : p.tables.exec = Jvm.exec) {own : String} {index : Nat} {y : MethodName} {bytes : ByteArray} {maxL : Nat} {ret : Option FieldType}
    (hown : s.vm.findClass own = some m.cls) (hlink : (Cond.methodLink own index y).before args s = true) (hstat : (Cond.static y).before args s = true) (hinit : (Cond.initialized y.cls).before args s = true)
    (hcode : (Cond.code y bytes maxL ret).before args s = true) (hy : y.cls ≠ "java/lang/invoke/MethodHandle" ∧ y.cls ≠ "java/lang/invoke/VarHandle")
    {W9 : Nat} {Pre : Pt → Array Value → Prop} {Post : Pt → Array Value → Option Value → Pt → Prop} {PostX : Pt → Array Value → Addr → Pt → Prop} (hK : vx_Back l R p e below s args y 3 W9 Pre Post PostX)
    {g : JFrame} (hg : g.method = m) (hsize : g.locals.size = c.maxLocals) {argsL rest : List Value} (hlen : ∀ sig, parseMethodDescriptor y.desc = some sig → argsL.length = sig.parameters.length)
    (hstack : g.stack = argsL.reverse ++ rest) (hW : 2 * g.monitorRoom + (rest.map fun v => v.category).sum ≤ W9) (hdg : decode c.code g.pc = .ok (.invokestatic index, 3))
    (hpre : ∀ vm₁, s.WarmedH vm₁ → Pre ⟨T.setVm vm₁, locs, cells, slots⟩ argsL.toArray) :
    (∃ (v : Option Value) (vm₁ : Vm) (B : Pt), s.WarmedH vm₁ ∧ Stand p l e R s m args below meth c B.U B.locs B.cells B.slots ∧ Post ⟨T.setVm vm₁, locs, cells, slots⟩ argsL.toArray v B ∧
      ∀ target, Steps p.tables e below (B.U.setTop { g with pc := g.pc + 3, stack := v.toList ++ rest }) target → Steps p.tables e below (T.setTop g) target) ∨
    (∃ (q : Addr) (vm₁ : Vm) (B : Pt), s.WarmedH vm₁ ∧ Stand p l e R s m args below meth c B.U B.locs B.cells B.slots ∧ PostX ⟨T.setVm vm₁, locs, cells, slots⟩ argsL.toArray q B ∧
      Steps p.tables e below (T.setTop g) ((B.U.setTop { g with stack := rest }).pushFrame (.throwing q))) := by
  obtain ⟨mk, hnamed⟩ := Cond.code_named hcode
  obtain ⟨methM, cM, hmethM, -, -, -, -, -, -, hsigM⟩ := Cond.code_spec hnamed hcode
  have hstatic : methM.isStatic = true := Cond.static_spec hnamed hmethM hstat
  obtain ⟨kP, hkP, -⟩ := className_of_methodNamed hnamed
  have hinitP : kP.init = .initialized := Cond.initialized_spec (findClass_of_methodNamed hnamed) hkP hinit
  obtain ⟨vm₁, X₁, hstep₁⟩ := X.invokestatic hexec hown hlink hnamed hmethM hstatic hkP hinitP hy (g := g) hg (argsL := argsL) (rest := rest) (hlen _ hsigM) hstack hdg
  rcases hK m meth c ⟨T.setVm vm₁, locs, cells, slots⟩ { g with stack := rest } (.invokestatic index) mk argsL.toArray X₁ hg hsize hdg hW (X₁.named hnamed) (hpre vm₁ X₁.warmed) with ⟨v, B, X', hpost, hsteps⟩ | ⟨q, B, X', hpost, hsteps⟩
  · exact Or.inl ⟨v, vm₁, B, X₁.warmed, X', hpost, fun target h => hstep₁ _ fun acts => by rw [doInvoke_state]; exact hsteps.trans h⟩
  · exact Or.inr ⟨q, vm₁, B, X₁.warmed, X', hpost, hstep₁ _ fun acts => by rw [doInvoke_state]; exact hsteps⟩
end Calls
theorem vx_cls {s : State} {T : State} {vm₁ : Vm} {E : String} {k : ClassId} (hW : s.WarmedH vm₁) (h : (T.setVm vm₁).vm.findClass E = some k) : s.vm.findClass E = some k := by
  have h1 : vm₁.findClass E = some k := h
  rw [hW.alike.findClass] at h1
  exact h1
/-- the method's frame g, with q thrown over it -/
def vx_W (p : Program) (l : Launch) (e : Env) (R : Room) (s : State) (m : MethodId) (args : Array Value) (below : List Frame) (meth : Method) (c : Code) (H : Heap) (locs : List Loc) (cells slots : Nat) (Q : State → Prop) (g : JFrame) (q : Addr) : Prop :=
  ∀ T : State, T.heap = H → Stand p l e R s m args below meth c T locs cells slots → ∃ t, Steps p.tables e below ((T.setTop g).pushFrame (.throwing q)) t ∧ Q t
def vx_Run (p : Program) (l : Launch) (e : Env) (R : Room) (s : State) (m : MethodId) (args : Array Value) (below : List Frame) (meth : Method) (c : Code) (H : Heap) (locs : List Loc) (cells slots mc ms : Nat) (g : JFrame) (rest : List Value) (Qa : State → Outcome → State → Prop) (XC : String → State → State → Prop) (free : Addr → Prop) : Prop :=
  ∀ T : State, T.heap = H → Stand p l e R s m args below meth c T locs cells slots →
    (∃ (v : Option Value) (st₀ t T' : State) (L : List Loc), st₀.heap = H ∧ Stand p l e R s m args below meth c T' (locs ++ L) (cells + mc) (slots + ms) ∧ (∀ q ∈ L, free q.base) ∧ T'.heap = t.heap ∧ T'.vm = t.vm ∧ Qa st₀ (.returned v) t ∧
      Goes p e below T g T' { g with pc := g.pc + 3, stack := v.toList ++ rest }) ∨
    (∃ (q : Addr) (st₀ t T' : State) (L : List Loc) (E : String) (ce : Cell), st₀.heap = H ∧ Stand p l e R s m args below meth c T' (locs ++ L) (cells + mc) (slots + ms) ∧ (∀ z ∈ L, free z.base) ∧ T'.heap = t.heap ∧ T'.vm = t.vm ∧ XC E st₀ t ∧ t.heap[q]? = some ce ∧ ce.vm = .none ∧ s.vm.findClass E = some ce.cls ∧
      Steps p.tables e below (T.setTop g) ((T'.setTop { g with stack := rest }).pushFrame (.throwing q)))
def vx_X {S : Type} (px : S → Prop) (B : String → S → State → Prop) (A : Nat → Prop) : String → State → State → Prop := fun E st t => ∃ u : S, px u ∧ B E u t ∧ va_F A st t
section Runs
variable {p : Program} {l : Launch} {e : Env} {R : Room} {s : State} {m : MethodId} {args : Array Value} {below : List Frame} {meth : Method} {c : Code} {H : Heap} {locs : List Loc} {cells slots : Nat}
variable {y : MethodName} {bytes cc : ByteArray} {maxL nL mc ms n index : Nat} {ret : Option FieldType} {ws : List Cond} {rm : Room} {Pc : Array Value → State → Prop} {Qc : Array Value → State → Outcome → State → Prop} {XC : String → State → State → Prop} {free : Addr → Prop} {Ts : List Cond} {own C : String} {b : Addr} {As rest : List Value} {g : JFrame}
theorem vx_callBack (cb : CallB R s args own index y bytes maxL ret ws rm mc ms n) (hM : vx_Met l y ws rm Pc Qc XC mc ms free) (hbl : FrameBlind Pc) : vx_Back l R p e below s args y 3 8 (PreOf R mc ms Pc) (PostOf Qc mc ms free) (vx_Post XC mc ms free) := by
  obtain ⟨hrc, hrs, hfr, hlo, hws, hcw, -, hini, -⟩ := cb
  exact vx_back (bytes := bytes) (maxL := maxL) (ret := ret) hM hbl hrc hrs hfr hlo hws hcw (fun a' U hW => word_at hW (Or.inl (by first | rfl | simp [Cond.onTables, Cond.keeps, Cond.steady])) hini)
theorem vx_runV (S : CallFix p m c cc nL s args Ts own) (hM : vx_Met l y ws rm Pc Qc XC mc ms free) (cw : CallW R s args own C index y bytes maxL ret ws rm mc ms n) (hp : PreV s H C b Pc As)
    (hg : g.method = m) (hn : As.length = n) (hsize : g.locals.size = nL) (hstack : g.stack = As.reverse ++ .ref b :: rest) (hW : 2 * g.monitorRoom + (rest.map fun v => v.category).sum ≤ 8) (hdg : decode cc g.pc = .ok (.invokevirtual index, 3)) (hf : cells + mc ≤ R.cells ∧ slots + ms ≤ R.slots) :
    vx_Run p l e R s m args below meth c H locs cells slots mc ms g rest (Qc (Value.ref b :: As).toArray) XC free := by
  have hK : vx_Back l R p e below s args y 3 8 (PreOf R mc ms Pc) (PostOf Qc mc ms free) (vx_Post XC mc ms free) := vx_callBack cw.1 hM hp.1
  obtain ⟨⟨-, -, -, -, -, -, hcode, -, hy, hlen, hl⟩, hin, hse⟩ := cw
  obtain ⟨hx, hb, hml, ho, -⟩ := S
  obtain ⟨-, ⟨cellB, hcB, hoB, hclB⟩, hPc⟩ := hp
  intro T hT X
  rcases vx_callV X hx (C := C) (bytes := bytes) (maxL := maxL) (ret := ret) ho hl hin hse hcode hy hK (by rw [hT]; exact hcB) hoB hclB hg (hsize.trans hml.symm) (argsL := As) (rest := rest) (fun sig h => hn.trans (hlen sig h)) hstack hW (by rw [hb]; exact hdg)
    (fun vm₁ hW₁ => ⟨hf.1, hf.2, hPc (T.setVm vm₁) hT hW₁⟩) with ⟨v, vm₁, ⟨U', l2, c2, s2⟩, hW₁, X', ⟨g', mk, t, L, e1, e2, hq, h1, hL, h2, h3⟩, st⟩ | ⟨q, vm₁, ⟨U', l2, c2, s2⟩, hW₁, X', ⟨g', mk, t, L, E, ce, e1, e2, hq, hce, hcv, hcl, h1, hL, h2, h3⟩, st⟩
  · dsimp only [Pt.U, Pt.locs, Pt.cells, Pt.slots] at X' e1 e2 h1 h2 h3 st
    subst h1; subst h2; subst h3
    exact Or.inl ⟨v, (T.setVm vm₁).calling g' mk (Value.ref b :: As).toArray, t, U', L, hT, X', hL, e1, e2, hq, st⟩
  · dsimp only [Pt.U, Pt.locs, Pt.cells, Pt.slots] at X' e1 e2 h1 h2 h3 st hcl
    subst h1; subst h2; subst h3
    exact Or.inr ⟨q, (T.setVm vm₁).calling g' mk (Value.ref b :: As).toArray, t, U', L, E, ce, hT, X', hL, e1, e2, hq, hce, hcv, vx_cls hW₁ hcl, st⟩
theorem vx_runS (S : CallFix p m c cc nL s args Ts own) (hM : vx_Met l y ws rm Pc Qc XC mc ms free) (cw : CallB R s args own index y bytes maxL ret ws rm mc ms n ∧ (Cond.static y).before args s = true) (hp : PreS s H Pc As)
    (hg : g.method = m) (hn : As.length = n) (hsize : g.locals.size = nL) (hstack : g.stack = As.reverse ++ rest) (hW : 2 * g.monitorRoom + (rest.map fun v => v.category).sum ≤ 8) (hdg : decode cc g.pc = .ok (.invokestatic index, 3)) (hf : cells + mc ≤ R.cells ∧ slots + ms ≤ R.slots) :
    vx_Run p l e R s m args below meth c H locs cells slots mc ms g rest (Qc As.toArray) XC free := by
  have hK : vx_Back l R p e below s args y 3 8 (PreOf R mc ms Pc) (PostOf Qc mc ms free) (vx_Post XC mc ms free) := vx_callBack cw.1 hM hp.1
  obtain ⟨⟨-, -, -, -, -, -, hcode, hini, hy, hlen, hl⟩, hstt⟩ := cw
  obtain ⟨hx, hb, hml, ho, -⟩ := S
  intro T hT X
  rcases vx_callS X hx (bytes := bytes) (maxL := maxL) (ret := ret) ho hl hstt hini hcode hy hK hg (hsize.trans hml.symm) (argsL := As) (rest := rest) (fun sig h => hn.trans (hlen sig h)) hstack hW (by rw [hb]; exact hdg)
    (fun vm₁ hW₁ => ⟨hf.1, hf.2, hp.2 (T.setVm vm₁) hT hW₁⟩) with ⟨v, vm₁, ⟨U', l2, c2, s2⟩, hW₁, X', ⟨g', mk, t, L, e1, e2, hq, h1, hL, h2, h3⟩, st⟩ | ⟨q, vm₁, ⟨U', l2, c2, s2⟩, hW₁, X', ⟨g', mk, t, L, E, ce, e1, e2, hq, hce, hcv, hcl, h1, hL, h2, h3⟩, st⟩
  · dsimp only [Pt.U, Pt.locs, Pt.cells, Pt.slots] at X' e1 e2 h1 h2 h3 st
    subst h1; subst h2; subst h3
    exact Or.inl ⟨v, (T.setVm vm₁).calling g' mk As.toArray, t, U', L, hT, X', hL, e1, e2, hq, st⟩
  · dsimp only [Pt.U, Pt.locs, Pt.cells, Pt.slots] at X' e1 e2 h1 h2 h3 st hcl
    subst h1; subst h2; subst h3
    exact Or.inr ⟨q, (T.setVm vm₁).calling g' mk As.toArray, t, U', L, E, ce, hT, X', hL, e1, e2, hq, hce, hcv, vx_cls hW₁ hcl, st⟩
end Runs
section Rows
variable {p : Program} {l : Launch} {e : Env} {R : Room} {s : State} {m : MethodId} {args : Array Value} {below : List Frame} {meth : Method} {c : Code} {H : Heap} {locs : List Loc} {cells slots : Nat} {Q : State → Prop}
variable {mc ms : Nat} {free : Addr → Prop} {A0 A1 : Nat → Prop} {H0 : Heap} {a : Array Value} {pc : Nat} {ls : Array Slot} {st0 rest : List Value}
theorem vx_keep {st₀ t T' : State} {L : List Loc} (h0 : st₀.heap = H) (e1 : T'.heap = t.heap) (hS : va_S A0 H0 H locs) (hA : ∀ q, q < H.size → A1 q → A0 q) (hf : ∀ q, free q → A0 q) (hL : ∀ q ∈ L, free q.base) (hF : va_F A1 st₀ t) :
    H.size ≤ T'.heap.size ∧ (∀ q : Nat, q < H.size → ¬ A1 q → T'.heap[q]? = H[q]?) ∧ va_S A0 H0 T'.heap (locs ++ L) := by
  obtain ⟨hz, hk⟩ := hF
  rw [h0] at hz hk
  exact ⟨by rw [e1]; exact hz, fun q h1 h2 => by rw [e1]; exact hk q h1 h2,
    ⟨Nat.le_trans hS.1 (by rw [e1]; exact hz), fun q h1 h2 => by rw [e1, hk q (Nat.lt_of_lt_of_le h1 hS.1) (fun z => h2 (hA q (Nat.lt_of_lt_of_le h1 hS.1) z))]; exact hS.2.1 q h1 h2, fun q hq => by
      rcases List.mem_append.mp hq with h | h
      · exact hS.2.2 q h
      · exact hf _ (hL q h)⟩⟩
theorem vx_calli {S SX : Type} {post : Int32 → S → Prop} {px : SX → Prop} {B : S → State → Prop} {BX : String → SX → State → Prop} {AX : Nat → Prop} (hr : vx_Run p l e R s m args below meth c H locs cells slots mc ms (F0 m pc ls st0) rest (va_Qi post B A1 a) (vx_X px BX AX) free) (hS : va_S A0 H0 H locs) (hA : ∀ q, q < H.size → A1 q → A0 q) (hf : ∀ q, free q → A0 q) (hAX : ∀ q, q < H.size → AX q → A0 q)
    (kx : ∀ (E : String) (ce : Cell) (q9 : Addr) (u : SX) (t : State) (H1 : Heap) (locs1 : List Loc), t.heap = H1 → s.vm.Alike t.vm → px u → BX E u t → H.size ≤ H1.size → (∀ q : Nat, q < H.size → ¬ AX q → H1[q]? = H[q]?) → va_S A0 H0 H1 locs1 → H1[q9]? = some ce → ce.vm = .none → s.vm.findClass E = some ce.cls → vx_W p l e R s m args below meth c H1 locs1 (cells + mc) (slots + ms) Q (F0 m pc ls rest) q9)
    (kk : ∀ (r : Int32) (u : S) (t : State) (H1 : Heap) (locs1 : List Loc), t.heap = H1 → s.vm.Alike t.vm → post r u → B u t → H.size ≤ H1.size → (∀ q : Nat, q < H.size → ¬ A1 q → H1[q]? = H[q]?) → va_S A0 H0 H1 locs1 → W p l e R s m args below meth c H1 locs1 (cells + mc) (slots + ms) Q (F0 m (pc + 3) ls (.int r :: rest))) : W p l e R s m args below meth c H locs cells slots Q (F0 m pc ls st0) := by
  intro T hT X
  rcases hr T hT X with ⟨v, st₀, t, T', L, h0, X', hL, e1, e2, ⟨⟨r, u, hv, hp, hb⟩, hF⟩, st⟩ | ⟨q, st₀, t, T', L, E, ce, h0, X', hL, e1, e2, ⟨u, hp, hb, hF⟩, hce, hcv, hcl, st⟩
  · cases hv
    obtain ⟨k1, k2, k3⟩ := vx_keep h0 e1 hS hA hf hL hF
    obtain ⟨t2, a1, b1⟩ := kk r u t T'.heap (locs ++ L) e1.symm (by rw [← e2]; exact X'.warmed.alike) hp hb k1 k2 k3 T' rfl X'
    exact ⟨t2, st t2 a1, b1⟩
  · obtain ⟨k1, k2, k3⟩ := vx_keep h0 e1 hS hAX hf hL hF
    obtain ⟨t2, a1, b1⟩ := kx E ce q u t T'.heap (locs ++ L) e1.symm (by rw [← e2]; exact X'.warmed.alike) hp hb k1 k2 k3 (by rw [e1]; exact hce) hcv hcl T' rfl X'
    exact ⟨t2, st.trans a1, b1⟩
theorem vx_calll {S SX : Type} {post : Int64 → S → Prop} {px : SX → Prop} {B : S → State → Prop} {BX : String → SX → State → Prop} {AX : Nat → Prop} (hr : vx_Run p l e R s m args below meth c H locs cells slots mc ms (F0 m pc ls st0) rest (va_Ql post B A1 a) (vx_X px BX AX) free) (hS : va_S A0 H0 H locs) (hA : ∀ q, q < H.size → A1 q → A0 q) (hf : ∀ q, free q → A0 q) (hAX : ∀ q, q < H.size → AX q → A0 q)
    (kx : ∀ (E : String) (ce : Cell) (q9 : Addr) (u : SX) (t : State) (H1 : Heap) (locs1 : List Loc), t.heap = H1 → s.vm.Alike t.vm → px u → BX E u t → H.size ≤ H1.size → (∀ q : Nat, q < H.size → ¬ AX q → H1[q]? = H[q]?) → va_S A0 H0 H1 locs1 → H1[q9]? = some ce → ce.vm = .none → s.vm.findClass E = some ce.cls → vx_W p l e R s m args below meth c H1 locs1 (cells + mc) (slots + ms) Q (F0 m pc ls rest) q9)
    (kk : ∀ (r : Int64) (u : S) (t : State) (H1 : Heap) (locs1 : List Loc), t.heap = H1 → s.vm.Alike t.vm → post r u → B u t → H.size ≤ H1.size → (∀ q : Nat, q < H.size → ¬ A1 q → H1[q]? = H[q]?) → va_S A0 H0 H1 locs1 → W p l e R s m args below meth c H1 locs1 (cells + mc) (slots + ms) Q (F0 m (pc + 3) ls (.long r :: rest))) : W p l e R s m args below meth c H locs cells slots Q (F0 m pc ls st0) := by
  intro T hT X
  rcases hr T hT X with ⟨v, st₀, t, T', L, h0, X', hL, e1, e2, ⟨⟨r, u, hv, hp, hb⟩, hF⟩, st⟩ | ⟨q, st₀, t, T', L, E, ce, h0, X', hL, e1, e2, ⟨u, hp, hb, hF⟩, hce, hcv, hcl, st⟩
  · cases hv
    obtain ⟨k1, k2, k3⟩ := vx_keep h0 e1 hS hA hf hL hF
    obtain ⟨t2, a1, b1⟩ := kk r u t T'.heap (locs ++ L) e1.symm (by rw [← e2]; exact X'.warmed.alike) hp hb k1 k2 k3 T' rfl X'
    exact ⟨t2, st t2 a1, b1⟩
  · obtain ⟨k1, k2, k3⟩ := vx_keep h0 e1 hS hAX hf hL hF
    obtain ⟨t2, a1, b1⟩ := kx E ce q u t T'.heap (locs ++ L) e1.symm (by rw [← e2]; exact X'.warmed.alike) hp hb k1 k2 k3 (by rw [e1]; exact hce) hcv hcl T' rfl X'
    exact ⟨t2, st.trans a1, b1⟩
theorem vx_callf {S SX : Type} {post : UInt32 → S → Prop} {px : SX → Prop} {B : S → State → Prop} {BX : String → SX → State → Prop} {AX : Nat → Prop} (hr : vx_Run p l e R s m args below meth c H locs cells slots mc ms (F0 m pc ls st0) rest (va_Qf post B A1 a) (vx_X px BX AX) free) (hS : va_S A0 H0 H locs) (hA : ∀ q, q < H.size → A1 q → A0 q) (hf : ∀ q, free q → A0 q) (hAX : ∀ q, q < H.size → AX q → A0 q)
    (kx : ∀ (E : String) (ce : Cell) (q9 : Addr) (u : SX) (t : State) (H1 : Heap) (locs1 : List Loc), t.heap = H1 → s.vm.Alike t.vm → px u → BX E u t → H.size ≤ H1.size → (∀ q : Nat, q < H.size → ¬ AX q → H1[q]? = H[q]?) → va_S A0 H0 H1 locs1 → H1[q9]? = some ce → ce.vm = .none → s.vm.findClass E = some ce.cls → vx_W p l e R s m args below meth c H1 locs1 (cells + mc) (slots + ms) Q (F0 m pc ls rest) q9)
    (kk : ∀ (r : UInt32) (u : S) (t : State) (H1 : Heap) (locs1 : List Loc), t.heap = H1 → s.vm.Alike t.vm → post r u → B u t → H.size ≤ H1.size → (∀ q : Nat, q < H.size → ¬ A1 q → H1[q]? = H[q]?) → va_S A0 H0 H1 locs1 → W p l e R s m args below meth c H1 locs1 (cells + mc) (slots + ms) Q (F0 m (pc + 3) ls (.float r :: rest))) : W p l e R s m args below meth c H locs cells slots Q (F0 m pc ls st0) := by
  intro T hT X
  rcases hr T hT X with ⟨v, st₀, t, T', L, h0, X', hL, e1, e2, ⟨⟨r, u, hv, hp, hb⟩, hF⟩, st⟩ | ⟨q, st₀, t, T', L, E, ce, h0, X', hL, e1, e2, ⟨u, hp, hb, hF⟩, hce, hcv, hcl, st⟩
  · cases hv
    obtain ⟨k1, k2, k3⟩ := vx_keep h0 e1 hS hA hf hL hF
    obtain ⟨t2, a1, b1⟩ := kk r u t T'.heap (locs ++ L) e1.symm (by rw [← e2]; exact X'.warmed.alike) hp hb k1 k2 k3 T' rfl X'
    exact ⟨t2, st t2 a1, b1⟩
  · obtain ⟨k1, k2, k3⟩ := vx_keep h0 e1 hS hAX hf hL hF
    obtain ⟨t2, a1, b1⟩ := kx E ce q u t T'.heap (locs ++ L) e1.symm (by rw [← e2]; exact X'.warmed.alike) hp hb k1 k2 k3 (by rw [e1]; exact hce) hcv hcl T' rfl X'
    exact ⟨t2, st.trans a1, b1⟩
theorem vx_calld {S SX : Type} {post : UInt64 → S → Prop} {px : SX → Prop} {B : S → State → Prop} {BX : String → SX → State → Prop} {AX : Nat → Prop} (hr : vx_Run p l e R s m args below meth c H locs cells slots mc ms (F0 m pc ls st0) rest (va_Qd post B A1 a) (vx_X px BX AX) free) (hS : va_S A0 H0 H locs) (hA : ∀ q, q < H.size → A1 q → A0 q) (hf : ∀ q, free q → A0 q) (hAX : ∀ q, q < H.size → AX q → A0 q)
    (kx : ∀ (E : String) (ce : Cell) (q9 : Addr) (u : SX) (t : State) (H1 : Heap) (locs1 : List Loc), t.heap = H1 → s.vm.Alike t.vm → px u → BX E u t → H.size ≤ H1.size → (∀ q : Nat, q < H.size → ¬ AX q → H1[q]? = H[q]?) → va_S A0 H0 H1 locs1 → H1[q9]? = some ce → ce.vm = .none → s.vm.findClass E = some ce.cls → vx_W p l e R s m args below meth c H1 locs1 (cells + mc) (slots + ms) Q (F0 m pc ls rest) q9)
    (kk : ∀ (r : UInt64) (u : S) (t : State) (H1 : Heap) (locs1 : List Loc), t.heap = H1 → s.vm.Alike t.vm → post r u → B u t → H.size ≤ H1.size → (∀ q : Nat, q < H.size → ¬ A1 q → H1[q]? = H[q]?) → va_S A0 H0 H1 locs1 → W p l e R s m args below meth c H1 locs1 (cells + mc) (slots + ms) Q (F0 m (pc + 3) ls (.double r :: rest))) : W p l e R s m args below meth c H locs cells slots Q (F0 m pc ls st0) := by
  intro T hT X
  rcases hr T hT X with ⟨v, st₀, t, T', L, h0, X', hL, e1, e2, ⟨⟨r, u, hv, hp, hb⟩, hF⟩, st⟩ | ⟨q, st₀, t, T', L, E, ce, h0, X', hL, e1, e2, ⟨u, hp, hb, hF⟩, hce, hcv, hcl, st⟩
  · cases hv
    obtain ⟨k1, k2, k3⟩ := vx_keep h0 e1 hS hA hf hL hF
    obtain ⟨t2, a1, b1⟩ := kk r u t T'.heap (locs ++ L) e1.symm (by rw [← e2]; exact X'.warmed.alike) hp hb k1 k2 k3 T' rfl X'
    exact ⟨t2, st t2 a1, b1⟩
  · obtain ⟨k1, k2, k3⟩ := vx_keep h0 e1 hS hAX hf hL hF
    obtain ⟨t2, a1, b1⟩ := kx E ce q u t T'.heap (locs ++ L) e1.symm (by rw [← e2]; exact X'.warmed.alike) hp hb k1 k2 k3 (by rw [e1]; exact hce) hcv hcl T' rfl X'
    exact ⟨t2, st.trans a1, b1⟩
theorem vx_callv {S SX : Type} {post : S → Prop} {px : SX → Prop} {B : S → State → Prop} {BX : String → SX → State → Prop} {AX : Nat → Prop} (hr : vx_Run p l e R s m args below meth c H locs cells slots mc ms (F0 m pc ls st0) rest (va_Qv post B A1 a) (vx_X px BX AX) free) (hS : va_S A0 H0 H locs) (hA : ∀ q, q < H.size → A1 q → A0 q) (hf : ∀ q, free q → A0 q) (hAX : ∀ q, q < H.size → AX q → A0 q)
    (kx : ∀ (E : String) (ce : Cell) (q9 : Addr) (u : SX) (t : State) (H1 : Heap) (locs1 : List Loc), t.heap = H1 → s.vm.Alike t.vm → px u → BX E u t → H.size ≤ H1.size → (∀ q : Nat, q < H.size → ¬ AX q → H1[q]? = H[q]?) → va_S A0 H0 H1 locs1 → H1[q9]? = some ce → ce.vm = .none → s.vm.findClass E = some ce.cls → vx_W p l e R s m args below meth c H1 locs1 (cells + mc) (slots + ms) Q (F0 m pc ls rest) q9)
    (kk : ∀ (u : S) (t : State) (H1 : Heap) (locs1 : List Loc), t.heap = H1 → s.vm.Alike t.vm → post u → B u t → H.size ≤ H1.size → (∀ q : Nat, q < H.size → ¬ A1 q → H1[q]? = H[q]?) → va_S A0 H0 H1 locs1 → W p l e R s m args below meth c H1 locs1 (cells + mc) (slots + ms) Q (F0 m (pc + 3) ls (rest))) : W p l e R s m args below meth c H locs cells slots Q (F0 m pc ls st0) := by
  intro T hT X
  rcases hr T hT X with ⟨v, st₀, t, T', L, h0, X', hL, e1, e2, ⟨⟨u, hv, hp, hb⟩, hF⟩, st⟩ | ⟨q, st₀, t, T', L, E, ce, h0, X', hL, e1, e2, ⟨u, hp, hb, hF⟩, hce, hcv, hcl, st⟩
  · cases hv
    obtain ⟨k1, k2, k3⟩ := vx_keep h0 e1 hS hA hf hL hF
    obtain ⟨t2, a1, b1⟩ := kk u t T'.heap (locs ++ L) e1.symm (by rw [← e2]; exact X'.warmed.alike) hp hb k1 k2 k3 T' rfl X'
    exact ⟨t2, st t2 a1, b1⟩
  · obtain ⟨k1, k2, k3⟩ := vx_keep h0 e1 hS hAX hf hL hF
    obtain ⟨t2, a1, b1⟩ := kx E ce q u t T'.heap (locs ++ L) e1.symm (by rw [← e2]; exact X'.warmed.alike) hp hb k1 k2 k3 (by rw [e1]; exact hce) hcv hcl T' rfl X'
    exact ⟨t2, st.trans a1, b1⟩
/-- caught by the row x of this method's table; the rows ahead don't take it -/
theorem vx_catch {own name : String} {E : String} {ce : Cell} {q : Addr} (hown : s.vm.findClass own = some m.cls) (pre : List ExceptionTableEntry) (x : ExceptionTableEntry) (suf : List ExceptionTableEntry) (hsplit : c.exceptionTable.toList = pre ++ x :: suf)
    (hpass : ∀ z ∈ pre, covers z pc = false ∨ (z.catchType ≠ 0 ∧ ∃ nm : String, (Cond.classLink own z.catchType nm).before args s = true ∧ va_Nc E nm s)) (hx : covers x pc = true) (h0 : x.catchType ≠ 0)
    (hlink : (Cond.classLink own x.catchType name).before args s = true) (hcast : (Cond.castable E name).before args s = true) (hcell : H[q]? = some ce) (hv : ce.vm = .none) (hcl : s.vm.findClass E = some ce.cls)
    (kk : W p l e R s m args below meth c H locs cells slots Q (F0 m x.handlerPc ls [.ref q])) : vx_W p l e R s m args below meth c H locs cells slots Q (F0 m pc ls rest) q := by
  intro T hT X
  have hpl : e.platform.magicAccessors = ({} : Platform).magicAccessors := by rw [X.admits.platform]
  obtain ⟨c3, c4, hc3, hc4, hasg⟩ := Cond.castable_spec hcast
  cases Option.some.inj (hc3.symm.trans hcl)
  obtain ⟨c5, hc5, hcl5⟩ := Cond.classLink_spec hown hlink e.platform hpl
  cases Option.some.inj (hc4.symm.trans hc5)
  obtain ⟨vm', X', st⟩ := X.thenCaughtThrough q (g := F0 m pc ls rest) rfl (Steps.refl _) (by rw [hT]; exact hcell) (by rw [hv]; rfl) (by obtain ⟨k9, h9, -⟩ := Vm.findClass_spec hcl; exact ⟨k9, h9⟩) pre x suf hsplit
    (fun z hz => by
      rcases hpass z hz with h | ⟨hz0, nm, hl1, hn1⟩
      · exact Or.inl h
      · obtain ⟨c6, hc6, hcl6⟩ := Cond.classLink_spec hown hl1 e.platform hpl
        obtain ⟨a8, b8, h1, h2, h3⟩ := hn1
        cases Option.some.inj (h1.symm.trans hcl)
        cases Option.some.inj (h2.symm.trans hc6)
        exact Or.inr ⟨hz0, _, hcl6, h3⟩) hx (Or.inr ⟨h0, c4, hcl5, hasg⟩)
  obtain ⟨t, a1, b1⟩ := kk (T.setVm vm') hT X'
  exact ⟨t, st.trans a1, b1⟩
end Rows
section Ends
variable {p : Program} {l : Launch} {e : Env} {R : Room} {s : State} {m : MethodId} {args : Array Value} {below : List Frame} {meth : Method} {c : Code} {H : Heap} {locs : List Loc} {cells slots : Nat} {Q : State → Prop}
variable {mc ms : Nat} {free : Addr → Prop} {A0 A1 : Nat → Prop} {H0 : Heap} {a : Array Value} {ls : Array Slot} {st0 rest : List Value}
variable {Qc : Array Value → State → Outcome → State → Prop} {XC : String → State → State → Prop}
/-- what a body that may throw owes at its end -/
def vx_MQ (below : List Frame) (Qc : Array Value → State → Outcome → State → Prop) (XC : String → State → State → Prop) (a : Array Value) (s : State) (mc ms : Nat) (free : Addr → Prop) : State → Prop := fun t =>
  ∃ o, t.status = .running ∧ Ended t below o ∧ vx_Q Qc XC mc ms free a s o t
theorem vx_ret {g : JFrame} {mc ms : Nat} (k : W p l e R s m args below meth c H locs cells slots (MQ below Qc args s mc ms free) g) : W p l e R s m args below meth c H locs cells slots (vx_MQ below Qc XC args s mc ms free) g := by
  intro T hT X
  obtain ⟨t, a1, o, b1, b2, b3, b4⟩ := k T hT X
  exact ⟨t, a1, o, b1, b2, Or.inl ⟨b3, b4⟩⟩
/-- not caught here: it goes on to the caller -/
theorem vx_widen {g : JFrame} {q : Addr} {k n : Nat} (h1 : cells ≤ k) (h2 : slots ≤ n) (kk : vx_W p l e R s m args below meth c H locs k n Q g q) : vx_W p l e R s m args below meth c H locs cells slots Q g q := fun T hT X => kk T hT (stand_widen X h1 h2)
theorem vx_out {pc : Nat} {E : String} {ce : Cell} {q : Addr} {mc ms : Nat} (hout : ∀ x ∈ c.exceptionTable.toList, covers x pc = false) (hlocks : meth.locks = false) (hcell : H[q]? = some ce) (hv : ce.vm = .none) (hcl : s.vm.findClass E = some ce.cls)
    (hx : ∀ t : State, t.heap = H → s.vm.Alike t.vm → XC E s t) (hf : ∀ z ∈ locs, free z.base) (hc : cells ≤ mc) (hs : slots ≤ ms) :
    vx_W p l e R s m args below meth c H locs cells slots (vx_MQ below Qc XC args s mc ms free) (F0 m pc ls rest) q := by
  intro T hT X
  obtain ⟨st1, hrun, hend, hW, hsm⟩ := X.leaveThrown q (g := F0 m pc ls rest) rfl rfl rfl hout hlocks
  have hcell9 : (T.setFrames (.throwing q :: below)).heap[q]? = some ce := by
    show T.heap[q]? = some ce
    rw [hT]; exact hcell
  exact ⟨_, st1, .threw q, hrun, hend, Or.inr ⟨q, rfl, E, ce, locs, hx _ hT hW.alike, hcell9, hv, hcl, hW, hsm.mono hc hs, hf⟩⟩
theorem vx_frame {U : State} {k n : Nat} (h : s.sameButNew ({ U with vm := s.vm } : State) locs k n) : s.heap.size ≤ U.heap.size ∧ ∀ q : Nat, q < s.heap.size → (∀ z ∈ locs, z.base ≠ q) → U.heap[q]? = s.heap[q]? := by
  obtain ⟨-, h2, -, -, -, h6⟩ := h
  refine ⟨h2, fun q hq hz => ?_⟩
  obtain ⟨c9, e1, e2, e3, e4⟩ := h6 q _ (Array.getElem?_eq_getElem hq)
  have hs : c9.slots = (s.heap[q]).slots := Array.ext_getElem? fun i => e4 i fun hm => hz _ hm rfl
  have h9 : c9 = s.heap[q] := by
    rw [hs] at e2
    exact e2
  have e5 : U.heap[q]? = some c9 := e1
  rw [e5, h9, Array.getElem?_eq_getElem hq]
/-- the words of a throw but the four that speak of the heap -/
def vx_no (w : Cond) : Bool := decide (w ≠ .isRef (.static Bundle.tN "UNASSIGNED_STACK" Bundle.steD)) && decide (w ≠ .isRef (.static Bundle.tN "SUPPRESSED_SENTINEL" Bundle.listD)) && decide (w ≠ .laysStatic Bundle.tN "UNASSIGNED_STACK" Bundle.steD) && decide (w ≠ .laysStatic Bundle.tN "SUPPRESSED_SENTINEL" Bundle.listD)
def vx_at0 (own : String) (ic : Nat) (X : String) (names : List String) : List Cond := (Bundle.ownAtoms0 own ic X names).filter vx_no
def vx_atS (own : String) (ic : Nat) (X : String) (names : List String) : List Cond := (Bundle.ownAtoms own ic X names).filter vx_no
/-- a word that the tables alone decide, or a good one -/
def vx_ot (w : Cond) : Bool := w.onTables || goodWord w
theorem vx_ot_at {args a' : Array Value} {s U : State} {w : Cond} (hW : s.WarmedH U.vm) (hvm : s.vm = U.vm) (hg : vx_ot w = true) (h : w.before args s = true) : w.before a' U = true := by
  simp only [vx_ot, Bool.or_eq_true] at hg
  rcases hg with hg | hg
  · exact va_tabs hg hvm h
  · exact word_at hW (good_of_word hg) h
/-- a list's words: the good ones out of the method's own list, the others by premises of their own -/
theorem vx_hat {args : Array Value} {s : State} {L B : List Cond} (h1 : ∀ w ∈ L.filter goodWord, w.before args s = true) (h2 : ∀ w ∈ L.filter (fun w => !goodWord w), w ∈ B) (h3 : ∀ w ∈ B, w.before args s = true) : ∀ w ∈ L, w.before args s = true := by
  intro w hw
  by_cases g : goodWord w = true
  · exact h1 w (List.mem_filter.mpr ⟨hw, g⟩)
  · refine h3 w (h2 w (List.mem_filter.mpr ⟨hw, ?_⟩))
    show (!goodWord w) = true
    cases hgw : goodWord w
    · rfl
    · exact absurd hgw g
theorem vx_c {args : Array Value} {s : State} {w : Cond} {B : List Cond} (h : w.before args s = true) (t : ∀ w ∈ B, w.before args s = true) : ∀ w' ∈ w :: B, w'.before args s = true := fun w' h' => (List.mem_cons.mp h').elim (fun e => by rw [e]; exact h) (t w')
theorem vx_n {args : Array Value} {s : State} : ∀ w ∈ ([] : List Cond), w.before args s = true := fun _ h => nomatch h
theorem vx_own {args : Array Value} {s : State} {L : List Cond} (h1 : ∀ w ∈ L.filter vx_no, w.before args s = true)
    (hU : (Cond.isRef (.static Bundle.tN "UNASSIGNED_STACK" Bundle.steD)).before args s = true) (hN : (Cond.isRef (.static Bundle.tN "SUPPRESSED_SENTINEL" Bundle.listD)).before args s = true)
    (lU : (Cond.laysStatic Bundle.tN "UNASSIGNED_STACK" Bundle.steD).before args s = true) (lN : (Cond.laysStatic Bundle.tN "SUPPRESSED_SENTINEL" Bundle.listD).before args s = true) : ∀ w ∈ L, w.before args s = true := by
  intro w hw
  by_cases e1 : w = .isRef (.static Bundle.tN "UNASSIGNED_STACK" Bundle.steD)
  · rw [e1]; exact hU
  · by_cases e2 : w = .isRef (.static Bundle.tN "SUPPRESSED_SENTINEL" Bundle.listD)
    · rw [e2]; exact hN
    · by_cases e3 : w = .laysStatic Bundle.tN "UNASSIGNED_STACK" Bundle.steD
      · rw [e3]; exact lU
      · by_cases e4 : w = .laysStatic Bundle.tN "SUPPRESSED_SENTINEL" Bundle.listD
        · rw [e4]; exact lN
        · exact h1 w (List.mem_filter.mpr ⟨hw, by unfold vx_no; rw [decide_eq_true e1, decide_eq_true e2, decide_eq_true e3, decide_eq_true e4]; rfl⟩)
/-- where a static field lies, its class's statics cell in H -/
def vx_L (C n d : String) (A : Nat → Prop) (U : State) (H : Heap) : Prop := ∃ (c : ClassId) (k : Class) (i : Nat) (f : Field) (a : Nat) (cell : Cell), U.vm.findClass C = some c ∧ U.fieldFound? C n d = some (c, k, i, f) ∧ f.isStatic = true ∧ k.statics = some a ∧ H[a]? = some cell ∧ cell.vm.isStatics = true ∧ cell.cls = c ∧ f.slot < cell.slots.size ∧ k.staticTypes[f.slot]? = some f.type ∧ ¬ A a
theorem vx_L.moved {C n d : String} {A : Nat → Prop} {u U : State} {H : Heap} (hvm : u.vm.Alike U.vm) (h : vx_L C n d A u H) : vx_L C n d A U H := by
  obtain ⟨c, k, i, f, a, cell, h1, h2, h3, h4, h5, h6, h7, h8, h9, h10⟩ := h
  obtain ⟨k', hi', he⟩ := State.fieldFound?_setVm hvm h2
  exact ⟨c, k', i, f, a, cell, by rw [hvm.findClass]; exact h1, hi', h3, by rw [he]; exact h4, h5, h6, h7, h8, by rw [he]; exact h9, h10⟩
theorem vx_L.kept {C n d : String} {A : Nat → Prop} {U : State} {H H1 : Heap} (h : vx_L C n d A U H) (hq : ∀ a : Nat, a < H.size → ¬ A a → H1[a]? = H[a]?) : vx_L C n d A U H1 := by
  obtain ⟨c, k, i, f, a, cell, h1, h2, h3, h4, h5, h6, h7, h8, h9, h10⟩ := h
  exact ⟨c, k, i, f, a, cell, h1, h2, h3, h4, by rw [hq a (Array.getElem?_eq_some_iff.mp h5).1 h10]; exact h5, h6, h7, h8, h9, h10⟩
theorem vx_L.narrow {C n d : String} {A B : Nat → Prop} {U : State} {H : Heap} (h : vx_L C n d A U H) (hAB : ∀ q, B q → A q) : vx_L C n d B U H := by
  obtain ⟨c, k, i, f, a, cell, h1, h2, h3, h4, h5, h6, h7, h8, h9, h10⟩ := h
  exact ⟨c, k, i, f, a, cell, h1, h2, h3, h4, h5, h6, h7, h8, h9, fun z => h10 (hAB _ z)⟩
theorem vx_L.word {C n d : String} {A : Nat → Prop} {s : State} {args : Array Value} (h : vx_L C n d A s s.heap) : (Cond.laysStatic C n d).before args s = true := by
  obtain ⟨c, k, i, f, a, cell, h1, h2, h3, h4, h5, h6, h7, h8, h9, -⟩ := h
  show (Cond.laysStatic C n d).holds args s none s [] = true
  exact Cond.laysStatic_of h1 h2 h3 h4 h5 h6 h7 h8 h9
/-- .. and what it holds: null or some reference -/
def vx_Zq (C n d : String) (A : Nat → Prop) (U : State) (H : Heap) : Prop := va_Zq C n d A U H ∧ vx_L C n d A U H
theorem vx_Zq.moved {C n d : String} {A : Nat → Prop} {u U : State} {H : Heap} (hvm : u.vm.Alike U.vm) (h : vx_Zq C n d A u H) : vx_Zq C n d A U H := ⟨va_Zq.moved hvm h.1, vx_L.moved hvm h.2⟩
theorem vx_Zq.kept {C n d : String} {A : Nat → Prop} {U : State} {H H1 : Heap} (h : vx_Zq C n d A U H) (hq : ∀ a : Nat, a < H.size → ¬ A a → H1[a]? = H[a]?) : vx_Zq C n d A U H1 := ⟨va_Zq.kept h.1 hq, vx_L.kept h.2 hq⟩
theorem vx_Zq.narrow {C n d : String} {A B : Nat → Prop} {U : State} {H : Heap} (h : vx_Zq C n d A U H) (hAB : ∀ q, B q → A q) : vx_Zq C n d B U H := ⟨va_Zq.narrow h.1 hAB, vx_L.narrow h.2 hAB⟩
theorem vx_Zqof {args : Array Value} {s : State} {C n d : String} {A : Nat → Prop} (hl : (Cond.laysStatic C n d).before args s = true) (hini : (Cond.initialized C).before args s = true) (h : (Cond.isRef (.static C n d)).before args s = true) (hA : ∀ a : Nat, a < s.heap.size → ¬ A a) : vx_Zq C n d A s s.heap := by
  refine ⟨va_Zqof hl hini h hA, ?_⟩
  obtain ⟨c, k, i, f, a, cell, h1, h2, h3, h4, h5, h6, h7, h8, h9⟩ := Cond.laysStatic_spec hl
  exact ⟨c, k, i, f, a, cell, h1, h2, h3, h4, h5, h6, h7, h8, h9, hA a (Array.getElem?_eq_some_iff.mp h5).1⟩
theorem vx_isRef {C n d : String} {v : Value} {A : Nat → Prop} {s : State} {args : Array Value} (h : va_Z C n d v A s s.heap) (hv : v.isRef = true) : (Cond.isRef (.static C n d)).before args s = true := by
  obtain ⟨cf, kf, fi, f, a, cell, h1, h2, h3, h4, h5, h6, h7, -⟩ := h
  have he : (Term.static C n d).eval args s none [] s = some v := by
    simp [Term.eval, State.fieldNamed?, h1, h2, h4, h5, h6, h7]
  simp only [Cond.before, Cond.holds, Cond.value, he]
  cases v <;> simp_all [Value.isRef]
theorem vx_isRefq {C n d : String} {A : Nat → Prop} {s : State} {args : Array Value} (h : va_Zq C n d A s s.heap) : (Cond.isRef (.static C n d)).before args s = true := by
  rcases h with h | ⟨t, h⟩
  · exact vx_isRef h rfl
  · exact vx_isRef h rfl
/-- the same frame, seen from here: as if the method were called anew in this heap -/
theorem vx_rebase {T : State} (X : Stand p l e R s m args below meth c T locs cells slots) {R' : Room} (hf : R'.frames ≤ R.frames) (hl : R'.locals ≤ R.locals) (hc : cells + R'.cells ≤ R.cells) (hs : slots + R'.slots ≤ R.slots) :
    Stand p l e R' ((T.setVm s.vm).setFrames (.invoking m args :: below)) m args below meth c T [] 0 0 := by
  have htop : (T.setVm s.vm).topJava?.isSome := X.here.top
  have hF : ((T.setVm s.vm).setFrames (.invoking m args :: below)).frames = .invoking m args :: below := State.frames_setFrames _ (State.cur_lt_of_top htop)
  obtain ⟨g₀, hg0⟩ := Option.isSome_iff_exists.mp htop
  obtain ⟨r, hr⟩ := State.topJava?_eq_some.mp hg0
  have hl9 : e.platform.stackLimits (T.setVm s.vm).me = e.platform.stackLimits s.me := X.limits
  have hb9 : (T.setVm s.vm).me.stackBytes = s.me.stackBytes := X.bytes
  refine ⟨X.admits, X.cas, X.clock, hF, ?_, X.hears, X.method, X.code, X.here, X.tail, X.warmed, ?_, ?_, ?_⟩
  · have h := X.room
    have hU : ((T.setVm s.vm).setFrames (.invoking m args :: below)).localsInUse = s.localsInUse := by
      rw [State.localsInUse_invoking hF (meth := meth) (c := c) X.method X.code, State.localsInUse_invoking X.frames X.method X.code]
    simp only [State.hasRoom, Bool.and_eq_true, decide_eq_true_eq] at h ⊢
    obtain ⟨⟨⟨⟨h1, h2, h3, h4, h5, h6⟩, h7⟩, h8⟩, h9⟩ := h
    rw [X.frames, List.length_cons] at h2 h3
    have q1 := X.heapSize
    have q2 := X.used
    simp only [hF, hU, List.length_cons, State.stackLimits_setFrames, State.stackBytes_setFrames, hl9, hb9]
    refine ⟨⟨⟨⟨by omega, by omega, by omega, by omega, by omega, h6⟩, ?_⟩, ?_⟩, X.book⟩
    · show T.heap.size + R'.cells ≤ e.platform.maxCells
      omega
    · show T.slotsUsed + R'.slots ≤ e.platform.maxSlots
      omega
  · rw [State.stackLimits_setFrames]; rfl
  · rw [State.stackBytes_setFrames]; rfl
  · refine ⟨?_, Nat.le_refl _, Nat.le_refl _, ?_, ?_, fun a c9 h9 => ⟨c9, h9, rfl, rfl, fun _ _ => rfl⟩⟩
    · obtain ⟨t, ht, -⟩ := State.frames_cons hr
      show T.setVm s.vm = { ((T.setVm s.vm).setFrames (.invoking m args :: below)).setFrames (T.setVm s.vm).frames with heap := T.heap, slotsUsed := T.slotsUsed }
      rw [State.setFrames_setFrames, State.setFrames_self ht]
      rfl
    · show T.slotsUsed = T.slotsUsed + ((T.heap.toList.drop T.heap.size).map (·.slots.size)).sum
      rw [List.drop_eq_nil_of_le (Nat.le_of_eq Array.length_toList)]
      rfl
    · show ((T.heap.toList.drop T.heap.size).map (·.slots.size)).sum ≤ 0
      rw [List.drop_eq_nil_of_le (Nat.le_of_eq Array.length_toList)]
      exact Nat.le_refl _
/-- 'throw new E()': new; dup; invokespecial; athrow -/
theorem vx_throw0 {cc : ByteArray} {pc : Nat} (hexec : p.tables.exec = Jvm.exec) (hb : c.code = cc) (hl : l.stackTraces = false) {own cls : String} {names : List String} {ik ic mc ms : Nat} {A : Nat → Prop}
    (hown : s.vm.findClass own = some m.cls) (hcls : Bundle.fit cls = true) (hnames : ∀ n ∈ names, Bundle.fit n = true)
    (hk : (Cond.classLink own ik cls).before args s = true) (hini : (Cond.initialized cls).before args s = true) (hat : ∀ w ∈ vx_at0 own ic cls names, w.before args s = true)
    (hgood : ∀ w ∈ Cond.classLink own ik cls :: Cond.initialized cls :: vx_at0 own ic cls names, vx_ot w = true)
    (hU : vx_Zq Bundle.tN "UNASSIGNED_STACK" Bundle.steD A s s.heap) (hN : vx_Zq Bundle.tN "SUPPRESSED_SENTINEL" Bundle.listD A s s.heap) (hS : va_S A s.heap H locs) (hsize : ls.size = c.maxLocals)
    (d0 : decode cc pc = .ok (.new ik, 3)) (d3 : decode cc (pc + 3) = .ok (.dup, 1)) (d4 : decode cc (pc + 4) = .ok (.invokespecial ic, 3)) (d7 : decode cc (pc + 7) = .ok (.athrow, 1))
    (hout : ∀ x ∈ c.exceptionTable.toList, covers x (pc + 7) = false)
    (hRframes : names.length + 3 < R.frames) (hRlocals : (rest.map fun v => v.category).sum + (13 * (names.length + 1) + 42) ≤ R.locals) (hRcells : cells + 1 ≤ R.cells) (hRslots : slots + 6 ≤ R.slots) (hlocks : meth.locks = false)
    (hx : ∀ t : State, s.vm.Alike t.vm → H.size ≤ t.heap.size → (∀ q : Nat, q < H.size → t.heap[q]? = H[q]?) → XC cls s t)
    (hf : ∀ z ∈ locs, free z.base) (hc : cells + 1 ≤ mc) (hs : slots + 6 ≤ ms) :
    W p l e R s m args below meth c H locs cells slots (vx_MQ below Qc XC args s mc ms free) (F0 m pc ls rest) := by
  intro T hT X
  have htr : e.platform.stackTraces = false := (show e.platform.stackTraces = l.stackTraces by rw [X.admits.platform]).trans hl
  have Y := vx_rebase X (R' := { frames := R.frames, locals := R.locals, cells := 1, slots := 6 }) (Nat.le_refl _) (Nat.le_refl _) hRcells hRslots
  obtain ⟨s', hA⟩ : ∃ z, z = (T.setVm s.vm).setFrames (.invoking m args :: below) := ⟨_, rfl⟩
  rw [← hA] at Y
  have hvm : s'.vm = s.vm := by rw [hA]; rfl
  have hhp : s'.heap = H := by rw [hA]; exact hT
  have hW0 : s.WarmedH s'.vm := by rw [hvm]; exact State.WarmedH.refl s
  have hat' : ∀ w ∈ vx_at0 own ic cls names, w.before args s' = true := fun w hw => vx_ot_at hW0 hvm.symm (hgood w (List.mem_cons_of_mem _ (List.mem_cons_of_mem _ hw))) (hat w hw)
  have hk' : (Cond.classLink own ik cls).before args s' = true := vx_ot_at hW0 hvm.symm (hgood _ List.mem_cons_self) hk
  have hini' : (Cond.initialized cls).before args s' = true := vx_ot_at hW0 hvm.symm (hgood _ (List.mem_cons_of_mem _ List.mem_cons_self)) hini
  have hU' : vx_Zq Bundle.tN "UNASSIGNED_STACK" Bundle.steD A s' s'.heap := by rw [hhp]; exact vx_Zq.moved hW0.alike (hU.kept hS.2.1)
  have hN' : vx_Zq Bundle.tN "SUPPRESSED_SENTINEL" Bundle.listD A s' s'.heap := by rw [hhp]; exact vx_Zq.moved hW0.alike (hN.kept hS.2.1)
  have h : ∀ w ∈ Bundle.ownAtoms0 own ic cls names, w.before args s' = true := vx_own hat' (vx_isRefq hU'.1) (vx_isRefq hN'.1) hU'.2.word hN'.2.word
  have hown' : s'.vm.findClass own = some m.cls := by rw [hvm]; exact hown
  have hins : (Cond.instantiable cls 6).before args s' = true := h _ (by simp [Bundle.ownAtoms0])
  obtain ⟨vm₁, cX, kX, hfX, hkX, -, -, X₁, st1⟩ := Y.newCold hexec (own := own) (C := cls) (index := ik) (n := 6) hown' hk' hins hini'
    (g := F0 m pc ls rest) rfl (by rw [hb]; exact d0) (Nat.le_refl _) (Nat.le_refl _)
  generalize hT1 : (T.setVm vm₁).pushCell { cls := cX, slots := kX.instanceTypes.map defaultValue, vm := .none } = T1 at X₁ st1
  have hcat : (Value.ref T.heap.size).category = 1 := rfl
  have hcellA : T1.heap[T.heap.size]? = some (freshCell cX kX) := by rw [← hT1]; exact State.heap_pushCell_size _ _
  have d3' : decode c.code (pc + 3) = .ok (.dup, 1) := by rw [hb]; exact d3
  obtain ⟨U, hsteps, hrun, hend, hW, hsame, ce, hce, hO⟩ := X₁.ctorThrow0 hexec htr (own := own) (cls := cls) (names := names) (ic := ic) hown' hcls hnames h (fun x hx => nomatch hx) hfX hkX hcellA (by rw [hhp, hT]; exact Nat.le_refl _)
    (g := { method := m, pc := pc + 4, locals := ls, stack := .ref T.heap.size :: .ref T.heap.size :: rest, locked := none }) rfl hsize rfl rfl (rest := rest) rfl
    (by rw [hb]; exact d4) (by rw [hb]; exact d7) hout hRframes (by simp only [List.map_cons, List.sum_cons, hcat]; omega) hlocks
  obtain ⟨f1, f2⟩ := vx_frame hsame
  rw [hhp] at f1 f2
  have hWs : s.WarmedH U.vm := State.WarmedH.trans hW0 hW
  have hcl : s.vm.findClass cls = some ce.cls := by
    have h9 := hO.cls
    rw [hvm] at h9
    exact h9
  have hall : s.sameButNew ({ U with vm := s.vm } : State) locs mc ms := by
    subst hA
    obtain ⟨e1, e2⟩ := hsame
    rw [State.setFrames_setFrames] at e1
    have h2 : (T.setVm s.vm).sameButNew ({ U with vm := s.vm } : State) [] (0 + 1) (0 + 6) := ⟨e1, e2⟩
    have h3 := X.same.trans h2
    rw [List.append_nil] at h3
    exact h3.mono hc hs
  refine ⟨U, ?_, .threw T.heap.size, hrun, hend, Or.inr ⟨T.heap.size, rfl, cls, ce, locs, hx U hWs.alike f1 (fun q hq => f2 q hq (fun z hz => nomatch hz)), hce, hO.vm, hcl, hWs, hall, hf⟩⟩
  refine st1 _ ?_
  show Steps p.tables e below (T1.setTop { method := m, pc := pc + 3, locals := ls, stack := .ref T.heap.size :: rest, locked := none }) _
  jvm_step X₁.here [X₁.here.top, hexec, d3', Value.category]
  exact hsteps
/-- 'throw new E("text")': new; dup; ldc; invokespecial; athrow -/
theorem vx_throwS {cc : ByteArray} {pc : Nat} (hexec : p.tables.exec = Jvm.exec) (hb : c.code = cc) (hl : l.stackTraces = false) {own cls text : String} {names : List String} {ik is ic mc ms sa : Nat} {A : Nat → Prop}
    (hown : s.vm.findClass own = some m.cls) (hcls : Bundle.fit cls = true) (hnames : ∀ n ∈ names, Bundle.fit n = true)
    (hk : (Cond.classLink own ik cls).before args s = true) (hini : (Cond.initialized cls).before args s = true) (hstr : vk_R own is text sa s) (hat : ∀ w ∈ vx_atS own ic cls names, w.before args s = true)
    (hgood : ∀ w ∈ Cond.classLink own ik cls :: Cond.initialized cls :: vx_atS own ic cls names, vx_ot w = true)
    (hU : vx_Zq Bundle.tN "UNASSIGNED_STACK" Bundle.steD A s s.heap) (hN : vx_Zq Bundle.tN "SUPPRESSED_SENTINEL" Bundle.listD A s s.heap) (hS : va_S A s.heap H locs) (hsize : ls.size = c.maxLocals)
    (d0 : decode cc pc = .ok (.new ik, 3)) (d3 : decode cc (pc + 3) = .ok (.dup, 1)) (d4 : decode cc (pc + 4) = .ok (.ldc is, 2)) (d6 : decode cc (pc + 6) = .ok (.invokespecial ic, 3)) (d9 : decode cc (pc + 9) = .ok (.athrow, 1))
    (hout : ∀ x ∈ c.exceptionTable.toList, covers x (pc + 9) = false)
    (hRframes : names.length + 3 < R.frames) (hRlocals : (rest.map fun v => v.category).sum + (13 * (names.length + 1) + 43) ≤ R.locals) (hRcells : cells + 1 ≤ R.cells) (hRslots : slots + 6 ≤ R.slots) (hlocks : meth.locks = false)
    (hx : ∀ t : State, s.vm.Alike t.vm → H.size ≤ t.heap.size → (∀ q : Nat, q < H.size → t.heap[q]? = H[q]?) → XC cls s t)
    (hf : ∀ z ∈ locs, free z.base) (hc : cells + 1 ≤ mc) (hs : slots + 6 ≤ ms) :
    W p l e R s m args below meth c H locs cells slots (vx_MQ below Qc XC args s mc ms free) (F0 m pc ls rest) := by
  intro T hT X
  have htr : e.platform.stackTraces = false := (show e.platform.stackTraces = l.stackTraces by rw [X.admits.platform]).trans hl
  have Y := vx_rebase X (R' := { frames := R.frames, locals := R.locals, cells := 1, slots := 6 }) (Nat.le_refl _) (Nat.le_refl _) hRcells hRslots
  obtain ⟨s', hA⟩ : ∃ z, z = (T.setVm s.vm).setFrames (.invoking m args :: below) := ⟨_, rfl⟩
  rw [← hA] at Y
  have hvm : s'.vm = s.vm := by rw [hA]; rfl
  have hhp : s'.heap = H := by rw [hA]; exact hT
  have hW0 : s.WarmedH s'.vm := by rw [hvm]; exact State.WarmedH.refl s
  have hat' : ∀ w ∈ vx_atS own ic cls names, w.before args s' = true := fun w hw => vx_ot_at hW0 hvm.symm (hgood w (List.mem_cons_of_mem _ (List.mem_cons_of_mem _ hw))) (hat w hw)
  have hk' : (Cond.classLink own ik cls).before args s' = true := vx_ot_at hW0 hvm.symm (hgood _ List.mem_cons_self) hk
  have hini' : (Cond.initialized cls).before args s' = true := vx_ot_at hW0 hvm.symm (hgood _ (List.mem_cons_of_mem _ List.mem_cons_self)) hini
  have hU' : vx_Zq Bundle.tN "UNASSIGNED_STACK" Bundle.steD A s' s'.heap := by rw [hhp]; exact vx_Zq.moved hW0.alike (hU.kept hS.2.1)
  have hN' : vx_Zq Bundle.tN "SUPPRESSED_SENTINEL" Bundle.listD A s' s'.heap := by rw [hhp]; exact vx_Zq.moved hW0.alike (hN.kept hS.2.1)
  have h : ∀ w ∈ Bundle.ownAtoms own ic cls names, w.before args s' = true := vx_own hat' (vx_isRefq hU'.1) (vx_isRefq hN'.1) hU'.2.word hN'.2.word
  have hown' : s'.vm.findClass own = some m.cls := by rw [hvm]; exact hown
  have hins : (Cond.instantiable cls 6).before args s' = true := h _ (by simp [Bundle.ownAtoms])
  obtain ⟨vm₁, cX, kX, hfX, hkX, -, -, X₁, st1⟩ := Y.newCold hexec (own := own) (C := cls) (index := ik) (n := 6) hown' hk' hins hini'
    (g := F0 m pc ls rest) rfl (by rw [hb]; exact d0) (Nat.le_refl _) (Nat.le_refl _)
  generalize hT1 : (T.setVm vm₁).pushCell { cls := cX, slots := kX.instanceTypes.map defaultValue, vm := .none } = T1 at X₁ st1
  have hcat : (Value.ref T.heap.size).category = 1 := rfl
  have hcellA : T1.heap[T.heap.size]? = some (freshCell cX kX) := by rw [← hT1]; exact State.heap_pushCell_size _ _
  have d3' : decode c.code (pc + 3) = .ok (.dup, 1) := by rw [hb]; exact d3
  have d4' : decode c.code (pc + 4) = .ok (.ldc is, 2) := by rw [hb]; exact d4
  have hstr' : vk_R own is text sa s' := vk_R.warm hW0 hstr
  obtain ⟨U, hsteps, hrun, hend, hW, hsame, ce, hce, hO⟩ := X₁.ctorThrowS hexec htr (own := own) (cls := cls) (names := names) (ic := ic) hown' hcls hnames h (fun x hx => nomatch hx) hfX hkX hcellA (by rw [hhp, hT]; exact Nat.le_refl _) (msg := .ref sa) rfl
    (g := { method := m, pc := pc + 6, locals := ls, stack := .ref sa :: .ref T.heap.size :: .ref T.heap.size :: rest, locked := none }) rfl hsize rfl rfl (rest := rest) rfl
    (by rw [hb]; exact d6) (by rw [hb]; exact d9) hout hRframes (by simp only [List.map_cons, List.sum_cons, hcat]; omega) hlocks
  obtain ⟨f1, f2⟩ := vx_frame hsame
  rw [hhp] at f1 f2
  have hWs : s.WarmedH U.vm := State.WarmedH.trans hW0 hW
  have hcl : s.vm.findClass cls = some ce.cls := by
    have h9 := hO.cls
    rw [hvm] at h9
    exact h9
  have hall : s.sameButNew ({ U with vm := s.vm } : State) locs mc ms := by
    subst hA
    obtain ⟨e1, e2⟩ := hsame
    rw [State.setFrames_setFrames] at e1
    have h2 : (T.setVm s.vm).sameButNew ({ U with vm := s.vm } : State) [] (0 + 1) (0 + 6) := ⟨e1, e2⟩
    have h3 := X.same.trans h2
    rw [List.append_nil] at h3
    exact h3.mono hc hs
  refine ⟨U, ?_, .threw T.heap.size, hrun, hend, Or.inr ⟨T.heap.size, rfl, cls, ce, locs, hx U hWs.alike f1 (fun q hq => f2 q hq (fun z hz => nomatch hz)), hce, hO.vm, hcl, hWs, hall, hf⟩⟩
  refine st1 _ ?_
  show Steps p.tables e below (T1.setTop { method := m, pc := pc + 3, locals := ls, stack := .ref T.heap.size :: rest, locked := none }) _
  jvm_step X₁.here [X₁.here.top, hexec, d3', Value.category]
  exact X₁.ldcString hexec (own := own) (text := text) (index := is) (a := sa) hown' hstr'.1 hstr'.2
    (g := { method := m, pc := pc + 4, locals := ls, stack := .ref T.heap.size :: .ref T.heap.size :: rest, locked := none }) rfl d4' _ hsteps
/-- 'throw new E("text")', the text by a wide index -/
theorem vx_throwSW {cc : ByteArray} {pc : Nat} (hexec : p.tables.exec = Jvm.exec) (hb : c.code = cc) (hl : l.stackTraces = false) {own cls text : String} {names : List String} {ik is ic mc ms sa : Nat} {A : Nat → Prop}
    (hown : s.vm.findClass own = some m.cls) (hcls : Bundle.fit cls = true) (hnames : ∀ n ∈ names, Bundle.fit n = true)
    (hk : (Cond.classLink own ik cls).before args s = true) (hini : (Cond.initialized cls).before args s = true) (hstr : vk_R own is text sa s) (hat : ∀ w ∈ vx_atS own ic cls names, w.before args s = true)
    (hgood : ∀ w ∈ Cond.classLink own ik cls :: Cond.initialized cls :: vx_atS own ic cls names, vx_ot w = true)
    (hU : vx_Zq Bundle.tN "UNASSIGNED_STACK" Bundle.steD A s s.heap) (hN : vx_Zq Bundle.tN "SUPPRESSED_SENTINEL" Bundle.listD A s s.heap) (hS : va_S A s.heap H locs) (hsize : ls.size = c.maxLocals)
    (d0 : decode cc pc = .ok (.new ik, 3)) (d3 : decode cc (pc + 3) = .ok (.dup, 1)) (d4 : decode cc (pc + 4) = .ok (.ldc_w is, 3)) (d7 : decode cc (pc + 7) = .ok (.invokespecial ic, 3)) (d10 : decode cc (pc + 10) = .ok (.athrow, 1))
    (hout : ∀ x ∈ c.exceptionTable.toList, covers x (pc + 10) = false)
    (hRframes : names.length + 3 < R.frames) (hRlocals : (rest.map fun v => v.category).sum + (13 * (names.length + 1) + 43) ≤ R.locals) (hRcells : cells + 1 ≤ R.cells) (hRslots : slots + 6 ≤ R.slots) (hlocks : meth.locks = false)
    (hx : ∀ t : State, s.vm.Alike t.vm → H.size ≤ t.heap.size → (∀ q : Nat, q < H.size → t.heap[q]? = H[q]?) → XC cls s t)
    (hf : ∀ z ∈ locs, free z.base) (hc : cells + 1 ≤ mc) (hs : slots + 6 ≤ ms) :
    W p l e R s m args below meth c H locs cells slots (vx_MQ below Qc XC args s mc ms free) (F0 m pc ls rest) := by
  intro T hT X
  have htr : e.platform.stackTraces = false := (show e.platform.stackTraces = l.stackTraces by rw [X.admits.platform]).trans hl
  have Y := vx_rebase X (R' := { frames := R.frames, locals := R.locals, cells := 1, slots := 6 }) (Nat.le_refl _) (Nat.le_refl _) hRcells hRslots
  obtain ⟨s', hA⟩ : ∃ z, z = (T.setVm s.vm).setFrames (.invoking m args :: below) := ⟨_, rfl⟩
  rw [← hA] at Y
  have hvm : s'.vm = s.vm := by rw [hA]; rfl
  have hhp : s'.heap = H := by rw [hA]; exact hT
  have hW0 : s.WarmedH s'.vm := by rw [hvm]; exact State.WarmedH.refl s
  have hat' : ∀ w ∈ vx_atS own ic cls names, w.before args s' = true := fun w hw => vx_ot_at hW0 hvm.symm (hgood w (List.mem_cons_of_mem _ (List.mem_cons_of_mem _ hw))) (hat w hw)
  have hk' : (Cond.classLink own ik cls).before args s' = true := vx_ot_at hW0 hvm.symm (hgood _ List.mem_cons_self) hk
  have hini' : (Cond.initialized cls).before args s' = true := vx_ot_at hW0 hvm.symm (hgood _ (List.mem_cons_of_mem _ List.mem_cons_self)) hini
  have hU' : vx_Zq Bundle.tN "UNASSIGNED_STACK" Bundle.steD A s' s'.heap := by rw [hhp]; exact vx_Zq.moved hW0.alike (hU.kept hS.2.1)
  have hN' : vx_Zq Bundle.tN "SUPPRESSED_SENTINEL" Bundle.listD A s' s'.heap := by rw [hhp]; exact vx_Zq.moved hW0.alike (hN.kept hS.2.1)
  have h : ∀ w ∈ Bundle.ownAtoms own ic cls names, w.before args s' = true := vx_own hat' (vx_isRefq hU'.1) (vx_isRefq hN'.1) hU'.2.word hN'.2.word
  have hown' : s'.vm.findClass own = some m.cls := by rw [hvm]; exact hown
  have hins : (Cond.instantiable cls 6).before args s' = true := h _ (by simp [Bundle.ownAtoms])
  obtain ⟨vm₁, cX, kX, hfX, hkX, -, -, X₁, st1⟩ := Y.newCold hexec (own := own) (C := cls) (index := ik) (n := 6) hown' hk' hins hini'
    (g := F0 m pc ls rest) rfl (by rw [hb]; exact d0) (Nat.le_refl _) (Nat.le_refl _)
  generalize hT1 : (T.setVm vm₁).pushCell { cls := cX, slots := kX.instanceTypes.map defaultValue, vm := .none } = T1 at X₁ st1
  have hcat : (Value.ref T.heap.size).category = 1 := rfl
  have hcellA : T1.heap[T.heap.size]? = some (freshCell cX kX) := by rw [← hT1]; exact State.heap_pushCell_size _ _
  have d3' : decode c.code (pc + 3) = .ok (.dup, 1) := by rw [hb]; exact d3
  have d4' : decode c.code (pc + 4) = .ok (.ldc_w is, 3) := by rw [hb]; exact d4
  have hstr' : vk_R own is text sa s' := vk_R.warm hW0 hstr
  obtain ⟨U, hsteps, hrun, hend, hW, hsame, ce, hce, hO⟩ := X₁.ctorThrowS hexec htr (own := own) (cls := cls) (names := names) (ic := ic) hown' hcls hnames h (fun x hx => nomatch hx) hfX hkX hcellA (by rw [hhp, hT]; exact Nat.le_refl _) (msg := .ref sa) rfl
    (g := { method := m, pc := pc + 7, locals := ls, stack := .ref sa :: .ref T.heap.size :: .ref T.heap.size :: rest, locked := none }) rfl hsize rfl rfl (rest := rest) rfl
    (by rw [hb]; exact d7) (by rw [hb]; exact d10) hout hRframes (by simp only [List.map_cons, List.sum_cons, hcat]; omega) hlocks
  obtain ⟨f1, f2⟩ := vx_frame hsame
  rw [hhp] at f1 f2
  have hWs : s.WarmedH U.vm := State.WarmedH.trans hW0 hW
  have hcl : s.vm.findClass cls = some ce.cls := by
    have h9 := hO.cls
    rw [hvm] at h9
    exact h9
  have hall : s.sameButNew ({ U with vm := s.vm } : State) locs mc ms := by
    subst hA
    obtain ⟨e1, e2⟩ := hsame
    rw [State.setFrames_setFrames] at e1
    have h2 : (T.setVm s.vm).sameButNew ({ U with vm := s.vm } : State) [] (0 + 1) (0 + 6) := ⟨e1, e2⟩
    have h3 := X.same.trans h2
    rw [List.append_nil] at h3
    exact h3.mono hc hs
  refine ⟨U, ?_, .threw T.heap.size, hrun, hend, Or.inr ⟨T.heap.size, rfl, cls, ce, locs, hx U hWs.alike f1 (fun q hq => f2 q hq (fun z hz => nomatch hz)), hce, hO.vm, hcl, hWs, hall, hf⟩⟩
  refine st1 _ ?_
  show Steps p.tables e below (T1.setTop { method := m, pc := pc + 3, locals := ls, stack := .ref T.heap.size :: rest, locked := none }) _
  jvm_step X₁.here [X₁.here.top, hexec, d3', Value.category]
  exact X₁.ldcStringW hexec (own := own) (text := text) (index := is) (a := sa) hown' hstr'.1 hstr'.2
    (g := { method := m, pc := pc + 4, locals := ls, stack := .ref T.heap.size :: .ref T.heap.size :: rest, locked := none }) rfl d4' _ hsteps
end Ends
section Bodies
variable {l : Launch}
theorem vx_ofW {y : MethodName} {ws ws' : List Cond} {rm : Room} {Pc : Array Value → State → Prop} {Qc : Array Value → State → Outcome → State → Prop} {XC : String → State → State → Prop} {mc ms : Nat} {free : Addr → Prop} {cc : ByteArray} {maxL : Nat} {ret : Option FieldType}
    (hy : plainName y.cls = true) (hw : ws = Cond.code y cc maxL ret :: ws')
    (body : ∀ p e s m args below meth c s₁, BodyLoose p l y (headSpec ws rm) cc maxL ret e s m args below meth c s₁ → c.maxLocals = maxL → (∀ x ∈ c.exceptionTable.toList, False) → Pc args s →
      W p l e (headSpec ws rm).room s m args below meth c s.heap [] 0 0 (vx_MQ below Qc XC args s mc ms free) (entryFrame m args maxL)) : vx_Met l y ws rm Pc Qc XC mc ms free := by
  refine MetFree.of_bodyS (code := cc) (maxLocals := maxL) (ret := ret) hy ?_ ?_
  · intro args s m h hn
    obtain ⟨meth, c, h1, h2, h3, h4, h5, h6, -, -⟩ := Cond.code_spec hn (atoms_spec (ws := ws) h _ (by rw [hw]; exact List.mem_cons_self))
    exact ⟨meth, c, h1, h2, h3, h4, h5, h6⟩
  · intro p e s m args below meth c s₁ B hml hP _
    have hh0 : s₁.heap = s.heap := by rw [B.state]; rfl
    have ht : ∀ x ∈ c.exceptionTable.toList, False := by
      obtain ⟨meth9, c9, h1, h2, -, -, -, -, h7, -⟩ := Cond.code_spec B.named (atoms_spec (ws := ws) B.pre _ (by rw [hw]; exact List.mem_cons_self))
      cases Option.some.inj (h1.symm.trans B.method)
      cases Option.some.inj (h2.symm.trans (Stand.of_body B).code)
      intro x hx
      rw [Array.isEmpty_iff.mp h7] at hx
      cases hx
    obtain ⟨t, a1, o, b1, b2, b3⟩ := body p e s m args below meth c s₁ B hml ht hP s₁ hh0 (Stand.of_body B)
    exact ⟨t, o, a1, b1, b2, b3⟩
/-- the table of a body with handlers -/
theorem vx_table {p : Program} {x y : MethodName} {S : Spec} {cc bytes : ByteArray} {maxL maxL' : Nat} {ret ret' : Option FieldType} {e : Env} {s s₁ : State} {m : MethodId} {args : Array Value} {below : List Frame} {meth : Method} {c : Code} {hh : List (Nat × Nat × Nat × Nat)}
    (B : BodyLoose p l y S cc maxL ret e s m args below meth c s₁) (h : (Cond.codeWith y bytes maxL' ret' hh).before args s = true) : c.exceptionTable.toList = tableOf hh := by
  obtain ⟨m9, meth9, c9, hn9, h1, h2, -, -, h6, -⟩ := Cond.codeWith_spec h
  cases Option.some.inj (hn9.symm.trans B.named)
  cases Option.some.inj (h1.symm.trans B.method)
  cases Option.some.inj (h2.symm.trans (Stand.of_body B).code)
  rw [← h6, table_eq]
end Bodies
end VXA
/-! ===== END ===== -/
/-! ===== BEGIN a static call of a method with an exception table ===== -/
section VXS
variable {p : Program} {l : Launch} {e : Env} {R : Room} {s : State} {m : MethodId} {args : Array Value} {below : List Frame} {meth : Method} {c : Code} {T : State} {H : Heap} {locs : List Loc} {cells slots : Nat}
abbrev vx_CSW (R : Room) (s : State) (args : Array Value) (own : String) (index : Nat) (y : MethodName) (bytes : ByteArray) (maxL : Nat) (ret : Option FieldType) (hh : List (Nat × Nat × Nat × Nat)) (ws : List Cond) (rm : Room) (mc ms n : Nat) : Prop :=
  (rm.cells = mc ∧ rm.slots = ms ∧ rm.frames + 1 ≤ R.frames ∧ 8 + (maxL + 11) + rm.locals ≤ R.locals ∧ (∀ w ∈ ws, ∀ (a' : Array Value) (U : State), s.WarmedH U.vm → w.before a' U = true) ∧ Cond.codeWith y bytes maxL ret hh ∈ ws) ∧
  (Cond.codeWith y bytes maxL ret hh).before args s = true ∧ (Cond.initialized y.cls).before args s = true ∧ (y.cls ≠ "java/lang/invoke/MethodHandle" ∧ y.cls ≠ "java/lang/invoke/VarHandle") ∧
  (∀ sig, parseMethodDescriptor y.desc = some sig → n = sig.parameters.length) ∧ (Cond.methodLink own index y).before args s = true ∧ (Cond.static y).before args s = true
theorem vx_cwSW {own : String} {index maxL mc ms : Nat} {y : MethodName} {bytes : ByteArray} {ret : Option FieldType} {hh : List (Nat × Nat × Nat × Nat)} {Ts ws ws' : List Cond} {rm : Room} (n : Nat) (ht : ∀ w ∈ Ts, w.before args s = true) (hT : GoodIn Ts (va_wsS own index y ws)) (hw : ws = Cond.codeWith y bytes maxL ret hh :: ws') (hrc : rm.cells = mc) (hrs : rm.slots = ms)
    (hd : y.cls ≠ "java/lang/invoke/MethodHandle" ∧ y.cls ≠ "java/lang/invoke/VarHandle" ∧ (parseMethodDescriptor y.desc).map (fun d => d.parameters.length) = some n) (hR : rm.frames + 1 ≤ R.frames ∧ 8 + (maxL + 11) + rm.locals ≤ R.locals) :
    vx_CSW R s args own index y bytes maxL ret hh ws rm mc ms n := by
  have ok : ∀ w ∈ va_wsS own index y ws, w.before args s = true := fun w h => ht w (hT w h).1
  have hG : GoodIn Ts ws := fun w h => hT w (by unfold va_wsS; exact List.mem_append_right _ h)
  have hc : Cond.codeWith y bytes maxL ret hh ∈ ws := by rw [hw]; exact List.mem_cons_self
  refine ⟨⟨hrc, hrs, hR.1, hR.2, pay_in ht hG, hc⟩, ht _ (hG _ hc).1, ok _ (by simp [va_wsS]), ⟨hd.1, hd.2.1⟩, fun sig h => ?_, ok _ (by simp [va_wsS]), ok _ (by simp [va_wsS])⟩
  have h2 := hd.2.2
  rw [h] at h2
  exact (Option.some.inj h2).symm
theorem vx_callSW (X : Stand p l e R s m args below meth c T locs cells slots) (hexec : p.tables.exec = Jvm.exec) {own : String} {index : Nat} {y : MethodName} {bytes : ByteArray} {maxL : Nat} {ret : Option FieldType} {hh : List (Nat × Nat × Nat × Nat)}
    (hown : s.vm.findClass own = some m.cls) (hlink : (Cond.methodLink own index y).before args s = true) (hstat : (Cond.static y).before args s = true) (hinit : (Cond.initialized y.cls).before args s = true)
    (hcode : (Cond.codeWith y bytes maxL ret hh).before args s = true) (hy : y.cls ≠ "java/lang/invoke/MethodHandle" ∧ y.cls ≠ "java/lang/invoke/VarHandle")
    {W9 : Nat} {Pre : Pt → Array Value → Prop} {Post : Pt → Array Value → Option Value → Pt → Prop} (hK : Back l R p e below s args y 3 W9 Pre Post)
    {g : JFrame} (hg : g.method = m) (hsize : g.locals.size = c.maxLocals) {argsL rest : List Value} (hlen : ∀ sig, parseMethodDescriptor y.desc = some sig → argsL.length = sig.parameters.length)
    (hstack : g.stack = argsL.reverse ++ rest) (hW : 2 * g.monitorRoom + (rest.map fun v => v.category).sum ≤ W9) (hdg : decode c.code g.pc = .ok (.invokestatic index, 3))
    (hpre : ∀ vm₁, s.WarmedH vm₁ → Pre ⟨T.setVm vm₁, locs, cells, slots⟩ argsL.toArray) :
    ∃ (v : Option Value) (vm₁ : Vm) (B : Pt), s.WarmedH vm₁ ∧ Stand p l e R s m args below meth c B.U B.locs B.cells B.slots ∧ Post ⟨T.setVm vm₁, locs, cells, slots⟩ argsL.toArray v B ∧
      ∀ target, Steps p.tables e below (B.U.setTop { g with pc := g.pc + 3, stack := v.toList ++ rest }) target → Steps p.tables e below (T.setTop g) target := by
  obtain ⟨mk, methM, cM, hnamed, hmethM, -, -, -, -, -, -, hsigM⟩ := Cond.codeWith_spec hcode
  have hstatic : methM.isStatic = true := Cond.static_spec hnamed hmethM hstat
  obtain ⟨kP, hkP, -⟩ := className_of_methodNamed hnamed
  have hinitP : kP.init = .initialized := Cond.initialized_spec (findClass_of_methodNamed hnamed) hkP hinit
  obtain ⟨vm₁, X₁, hstep₁⟩ := X.invokestatic hexec hown hlink hnamed hmethM hstatic hkP hinitP hy (g := g) hg (argsL := argsL) (rest := rest) (hlen _ hsigM) hstack hdg
  obtain ⟨v, B, X', hpost, hsteps⟩ := hK m meth c ⟨T.setVm vm₁, locs, cells, slots⟩ { g with stack := rest } (.invokestatic index) mk argsL.toArray X₁ hg hsize hdg hW (X₁.named hnamed) (hpre vm₁ X₁.warmed)
  exact ⟨v, vm₁, B, X₁.warmed, X', hpost, fun target h => hstep₁ _ fun acts => by rw [doInvoke_state]; exact hsteps.trans h⟩
theorem vx_runSW {y : MethodName} {bytes cc : ByteArray} {maxL nL mc ms n index : Nat} {ret : Option FieldType} {hh : List (Nat × Nat × Nat × Nat)} {ws : List Cond} {rm : Room} {Pc : Array Value → State → Prop} {Qc : Array Value → State → Outcome → State → Prop} {free : Addr → Prop} {Ts : List Cond} {own : String} {As rest : List Value} {g : JFrame}
    (S : CallFix p m c cc nL s args Ts own) (hM : Met l y ws rm Pc Qc mc ms free) (cw : vx_CSW R s args own index y bytes maxL ret hh ws rm mc ms n) (hp : PreS s H Pc As)
    (hg : g.method = m) (hn : As.length = n) (hsize : g.locals.size = nL) (hstack : g.stack = As.reverse ++ rest) (hW : 2 * g.monitorRoom + (rest.map fun v => v.category).sum ≤ 8) (hdg : decode cc g.pc = .ok (.invokestatic index, 3)) (hf : cells + mc ≤ R.cells ∧ slots + ms ≤ R.slots) :
    va_Run p l e R s m args below meth c H locs cells slots mc ms g rest (Qc As.toArray) (free) := by
  obtain ⟨⟨hrc, hrs, hfr, hlo, hws, hcw⟩, hcode, hini, hy, hlen, hl, hstt⟩ := cw
  have hK : Back l R p e below s args y 3 8 (PreOf R mc ms Pc) (PostOf Qc mc ms free) := va_backW (hh := hh) (bytes := bytes) (maxL := maxL) (ret := ret) hM hp.1 hrc hrs hfr hlo hws hcw (fun a' U hW => word_at hW (Or.inl (by first | rfl | simp [Cond.onTables, Cond.keeps, Cond.steady])) hini)
  obtain ⟨hx, hb, hml, ho, -⟩ := S
  intro T hT X
  obtain ⟨v, vm₁, ⟨U', l2, c2, s2⟩, hW₁, X', ⟨g', mk, t, L, e1, e2, hq, h1, hL, h2, h3⟩, st⟩ := vx_callSW X hx (hh := hh) (bytes := bytes) (maxL := maxL) (ret := ret) ho hl hstt hini hcode hy hK hg (hsize.trans hml.symm) (argsL := As) (rest := rest) (fun sig h => hn.trans (hlen sig h)) hstack hW (by rw [hb]; exact hdg)
    (fun vm₁ hW₁ => ⟨hf.1, hf.2, hp.2 (T.setVm vm₁) hT hW₁⟩)
  dsimp only [Pt.U, Pt.locs, Pt.cells, Pt.slots] at X' e1 e2 h1 h2 h3 st
  subst h1; subst h2; subst h3
  exact ⟨v, (T.setVm vm₁).calling g' mk As.toArray, t, U', L, hT, X', hL, e1, e2, hq, st⟩
/-- not caught here, past rows that name other classes: it goes on to the caller -/
theorem vx_outP {p : Program} {l : Launch} {e : Env} {R : Room} {s : State} {m : MethodId} {args : Array Value} {below : List Frame} {meth : Method} {c : Code} {H : Heap} {locs : List Loc} {cells slots : Nat} {free : Addr → Prop} {ls : Array Slot} {rest : List Value} {Qc : Array Value → State → Outcome → State → Prop} {XC : String → State → State → Prop}
    {pc : Nat} {own E : String} {ce : Cell} {q : Addr} {mc ms : Nat} (hown : s.vm.findClass own = some m.cls) (hlocks : meth.locks = false)
    (hpass : ∀ z ∈ c.exceptionTable.toList, covers z pc = false ∨ (z.catchType ≠ 0 ∧ ∃ nm : String, (Cond.classLink own z.catchType nm).before args s = true ∧ va_Nc E nm s)) (hcell : H[q]? = some ce) (hv : ce.vm = .none) (hcl : s.vm.findClass E = some ce.cls)
    (hx : ∀ t : State, t.heap = H → s.vm.Alike t.vm → XC E s t) (hf : ∀ z ∈ locs, free z.base) (hc : cells ≤ mc) (hs : slots ≤ ms) :
    vx_W p l e R s m args below meth c H locs cells slots (vx_MQ below Qc XC args s mc ms free) (F0 m pc ls rest) q := by
  intro T hT X
  have hpl : e.platform.magicAccessors = ({} : Platform).magicAccessors := by rw [X.admits.platform]
  obtain ⟨vm', hW', X', st⟩ := X.outThrough hlocks q (g := F0 m pc ls rest) rfl rfl rfl (cell := ce) (by rw [hT]; exact hcell) (by rw [hv]; rfl)
    (by obtain ⟨k9, h9, -⟩ := Vm.findClass_spec hcl; exact ⟨k9, h9⟩) (fun z hz => by
      rcases hpass z hz with h | ⟨hz0, nm, hl1, hn1⟩
      · exact Or.inl h
      · obtain ⟨c6, hc6, hcl6⟩ := Cond.classLink_spec hown hl1 e.platform hpl
        obtain ⟨a8, b8, h1, h2, h3⟩ := hn1
        cases Option.some.inj (h1.symm.trans hcl)
        cases Option.some.inj (h2.symm.trans hc6)
        exact Or.inr ⟨hz0, _, hcl6, h3⟩)
  obtain ⟨g₀, hfr⟩ := X'.frames_eq
  have hcell9 : ((T.setVm vm').setFrames (.throwing q :: below)).heap[q]? = some ce := by
    show T.heap[q]? = some ce
    rw [hT]; exact hcell
  have hend : Ended ((T.setVm vm').setFrames (.throwing q :: below)) below (.threw q) := State.frames_setFrames _ (State.cur_lt_of_frames hfr)
  refine ⟨(T.setVm vm').setFrames (.throwing q :: below), ?_, .threw q, X'.here.running, hend, Or.inr ⟨q, rfl, E, ce, locs, hx _ hT (X'.ends _).1.alike, hcell9, hv, hcl, (X'.ends _).1, (X'.ends _).2.mono hc hs, hf⟩⟩
  rw [X.pushThrowing_eq]
  exact st
/-- a thing of a world lies in the heap -/
theorem vx_lt {D : va_G} {cl : List vw_C} {ws : va_W} {H1 : Heap} (h : va_P D cl ws H1) {k : Nat} {q : Nat × va_E} (hk : ws[k]? = some q) : q.1 < H1.size := (h k q hk).lt
end VXS
/-! ===== END ===== -/
/-! ===== BEGIN methods with a table of their own: called by a name, returning or throwing ===== -/
section VXH
/-! vx_backW, vx_callVX, vx_callSX, vx_callVW, vx_runVW, vx_runVX, vx_runSX, vx_ofWH follow the same proofs as their sisters above (Free/Laws.lean, Shelf42/LK1.lean); vx_outP calls Shelf42/NT130.lean (outThrough). -/
section
variable {l : Launch} {R : Room} {p : Program} {e : Env} {below : List Frame} {s : State} {sargs : Array Value} {y : MethodName} {len W9 : Nat}
theorem vx_backW {ws : List Cond} {rm : Room} {Pc : Array Value → State → Prop} {Qc : Array Value → State → Outcome → State → Prop} {XC : String → State → State → Prop} {mc ms : Nat} {free : Addr → Prop} {bytes : ByteArray} {maxL : Nat} {ret : Option FieldType} {hh : List (Nat × Nat × Nat × Nat)}
    (hM : vx_Met l y ws rm Pc Qc XC mc ms free) (hblind : FrameBlind Pc) (hrc : rm.cells = mc) (hrs : rm.slots = ms)
    (hframes : rm.frames + 1 ≤ R.frames) (hlocals : W9 + (maxL + 11) + rm.locals ≤ R.locals)
    (hws : ∀ w ∈ ws, ∀ a' U, s.WarmedH U.vm → w.before a' U = true) (hcode : Cond.codeWith y bytes maxL ret hh ∈ ws) (hinit : ∀ a' U, s.WarmedH U.vm → (Cond.initialized y.cls).before a' U = true) :
    vx_Back l R p e below s sargs y len W9 (PreOf R mc ms Pc) (PostOf Qc mc ms free) (vx_Post XC mc ms free) := by
  intro m meth c A g ig mk a X hg hsize hdg hW hn hp
  have h1 : (headSpec ws rm).pre.before a A.U = true := atoms_intro fun w hw => hws w hw _ _ X.warmed
  have h2 : (Cond.codeWith y bytes maxL ret hh).before a A.U = true := hws _ hcode _ _ X.warmed
  have h3 : (Cond.initialized y.cls).before a A.U = true := hinit _ _ X.warmed
  have h4 : A.cells + (headSpec ws rm).room.cells ≤ R.cells := by rw [show (headSpec ws rm).room.cells = mc from hrc]; exact hp.1
  have h5 : A.slots + (headSpec ws rm).room.slots ≤ R.slots := by rw [show (headSpec ws rm).room.slots = ms from hrs]; exact hp.2.1
  have hPc : Pc a (A.U.calling g mk a) := hblind _ _ _ _ hp.2.2
  obtain ⟨U, Ls, c0, s0⟩ := A
  dsimp only [Pt.U, Pt.locs, Pt.cells, Pt.slots] at h1 h2 h3 h4 h5 X hn hPc ⊢
  obtain ⟨m9, methY, cY, hn9, hmY, hcY, -, hlY, -⟩ := Cond.codeWith_spec h2
  cases Option.some.inj (hn9.symm.trans hn)
  obtain ⟨kY, hkY, -⟩ := className_of_methodNamed hn
  have hinitY : kY.init = .initialized := Cond.initialized_spec (findClass_of_methodNamed hn) hkY h3
  have h : At U g.method c below := by rw [hg]; exact X.here
  have hlocals9 : W9 + (maxL + 11) + (headSpec ws rm).room.locals ≤ R.locals := hlocals
  have happ : (headSpec ws rm).appliesLoose y e.platform (U.calling g mk a) = true :=
    Spec.appliesLoose_calling (g := g) h hdg hn hkY hinitY
      (X.room_calling (g := g) (R' := (headSpec ws rm).room) hsize hmY hcY hframes (by rw [hlY]; omega) h4 h5) h1
  obtain ⟨mid, hmid⟩ := h.above
  have hfr : (U.setTop g).frames = (.java g :: mid) ++ below := by rw [State.frames_setTop' g h.top, hmid]; rfl
  obtain ⟨o, s₂, hsteps, -, hend, hq⟩ := Steps.callFree hM p X.admits X.cas X.clock (acts := []) hfr happ hPc trivial
  have hq' : vx_Q Qc XC mc ms free a (U.calling g mk a) o s₂ := hq
  rw [State.frames_setTop' g h.top] at hend
  obtain ⟨g₀, hg0⟩ := Option.isSome_iff_exists.mp h.top
  obtain ⟨r, hr⟩ := State.topJava?_eq_some.mp hg0
  have hr' : (({ U with heap := s₂.heap, slotsUsed := s₂.slotsUsed } : State).setVm s₂.vm).frames = .java g₀ :: r := hr
  rcases hq' with ⟨hqc, L, hfe, hL⟩ | ⟨q, rfl, E, ce, L, hx, hce, hcv, hcl, hW₂, hsm, hL⟩
  · obtain ⟨⟨v, rfl⟩, hW₂, e2, q2, q3, q4, q5, q6⟩ := id hfe
    have e3 : s₂ = ({ (U.calling g mk a).setFrames s₂.frames with heap := s₂.heap, slotsUsed := s₂.slotsUsed } : State).setVm s₂.vm := by
      have : s₂ = ({ s₂ with vm := (U.calling g mk a).vm } : State).setVm s₂.vm := rfl
      rw [e2] at this
      exact this
    obtain ⟨c₂, i₂, len₂, hc₂, hd₂, hf₂⟩ := hend
    have hW' : U.WarmedH s₂.vm := hW₂
    have hcc : c₂ = c := by
      have h1 : s₂.code? g.method = U.code? g.method := by
        rw [State.code?_eq, State.code?_eq, hW'.alike.method?]
      exact Option.some.inj (hc₂.symm.trans (h1.trans h.code))
    subst hcc
    have hlen : len₂ = len := by rw [hdg] at hd₂; cases hd₂; rfl
    subst hlen
    have hs₂ : s₂ = (({ U with heap := s₂.heap, slotsUsed := s₂.slotsUsed } : State).setVm s₂.vm).setTop { g with pc := g.pc + len₂, stack := v.toList ++ g.stack } := by
      refine e3.trans ?_
      rw [hf₂, State.calling_eq h.top, State.setFrames_setFrames, State.setTop_of_frames _ hr', hr]
      rfl
    have hsame : U.sameButNew ({ U with heap := s₂.heap, slotsUsed := s₂.slotsUsed } : State) L mc ms := by
      refine ⟨?_, q2, q3, q4, q5, q6⟩
      obtain ⟨t, ht, -⟩ := State.frames_cons hr
      show ({ U with heap := s₂.heap, slotsUsed := s₂.slotsUsed } : State) = { U.setFrames U.frames with heap := s₂.heap, slotsUsed := s₂.slotsUsed }
      rw [State.setFrames_self ht]
    subst hg
    refine Or.inl ⟨v, ⟨(({ U with heap := s₂.heap, slotsUsed := s₂.slotsUsed } : State).setVm s₂.vm), Ls ++ L, c0 + mc, s0 + ms⟩,
      ⟨X.admits, X.cas, X.clock, X.frames, X.room, X.hears, X.method, X.code, (X.here.setHeapUsed s₂.heap s₂.slotsUsed).setVm hW'.alike, X.tail, State.WarmedH.trans X.warmed hW', X.limits, X.bytes, X.same.trans (hsame.setVm s.vm)⟩,
      ⟨g, mk, s₂, L, rfl, rfl, hqc, rfl, hL, rfl, rfl⟩, ?_⟩
    show Steps p.tables e below _ ((({ U with heap := s₂.heap, slotsUsed := s₂.slotsUsed } : State).setVm s₂.vm).setTop { g with pc := g.pc + len₂, stack := v.toList ++ g.stack })
    rw [← hs₂]
    exact hsteps
  · obtain ⟨e2, q2, q3, q4, q5, q6⟩ := id hsm
    have e3 : s₂ = ({ (U.calling g mk a).setFrames s₂.frames with heap := s₂.heap, slotsUsed := s₂.slotsUsed } : State).setVm s₂.vm := by
      have : s₂ = ({ s₂ with vm := (U.calling g mk a).vm } : State).setVm s₂.vm := rfl
      rw [e2] at this
      exact this
    have hf₂ : s₂.frames = .throwing q :: .java g :: U.frames.tail := hend
    have hW' : U.WarmedH s₂.vm := hW₂
    have hs₂ : s₂ = ((({ U with heap := s₂.heap, slotsUsed := s₂.slotsUsed } : State).setVm s₂.vm).setTop g).pushFrame (.throwing q) := by
      refine e3.trans ?_
      rw [hf₂, State.calling_eq h.top, State.setFrames_setFrames, State.pushFrame, State.frames_setTop _ hr', State.setTop_of_frames _ hr', State.setFrames_setFrames, hr]
      rfl
    have hsame : U.sameButNew ({ U with heap := s₂.heap, slotsUsed := s₂.slotsUsed } : State) L mc ms := by
      refine ⟨?_, q2, q3, q4, q5, q6⟩
      obtain ⟨t, ht, -⟩ := State.frames_cons hr
      show ({ U with heap := s₂.heap, slotsUsed := s₂.slotsUsed } : State) = { U.setFrames U.frames with heap := s₂.heap, slotsUsed := s₂.slotsUsed }
      rw [State.setFrames_self ht]
    subst hg
    refine Or.inr ⟨q, ⟨(({ U with heap := s₂.heap, slotsUsed := s₂.slotsUsed } : State).setVm s₂.vm), Ls ++ L, c0 + mc, s0 + ms⟩,
      ⟨X.admits, X.cas, X.clock, X.frames, X.room, X.hears, X.method, X.code, (X.here.setHeapUsed s₂.heap s₂.slotsUsed).setVm hW'.alike, X.tail, State.WarmedH.trans X.warmed hW', X.limits, X.bytes, X.same.trans (hsame.setVm s.vm)⟩,
      ⟨g, mk, s₂, L, E, ce, rfl, rfl, hx, hce, hcv, hcl, rfl, hL, rfl, rfl⟩, ?_⟩
    show Steps p.tables e below _ (((({ U with heap := s₂.heap, slotsUsed := s₂.slotsUsed } : State).setVm s₂.vm).setTop g).pushFrame (.throwing q))
    rw [← hs₂]
    exact hsteps
end
variable {p : Program} {l : Launch} {e : Env} {R : Room} {s : State} {m : MethodId} {args : Array Value} {below : List Frame} {meth : Method} {c : Code} {T : State} {H : Heap} {locs : List Loc} {cells slots : Nat}
theorem vx_callVX (X : Stand p l e R s m args below meth c T locs cells slots) (hexec : p.tables.exec = Jvm.exec) {own C : String} {index : Nat} {y : MethodName} {bytes : ByteArray} {maxL : Nat} {ret : Option FieldType} {hh : List (Nat × Nat × Nat × Nat)}
    (hown : s.vm.findClass own = some m.cls) (hlink : (Cond.methodLink own index y).before args s = true) (hinst : (Cond.instanceMethod y).before args s = true) (hsel : (Cond.selects C y y).before args s = true)
    (hcode : (Cond.codeWith y bytes maxL ret hh).before args s = true) (hy : y.cls ≠ "java/lang/invoke/MethodHandle" ∧ y.cls ≠ "java/lang/invoke/VarHandle")
    {W9 : Nat} {Pre : Pt → Array Value → Prop} {Post : Pt → Array Value → Option Value → Pt → Prop} {PostX : Pt → Array Value → Addr → Pt → Prop} (hK : vx_Back l R p e below s args y 3 W9 Pre Post PostX)
    {b : Addr} {cellB : Cell} (hcell : T.heap[b]? = some cellB) (hobj : cellB.vm.isStatics = false) (hcls : s.vm.findClass C = some cellB.cls)
    {g : JFrame} (hg : g.method = m) (hsize : g.locals.size = c.maxLocals) {argsL rest : List Value} (hlen : ∀ sig, parseMethodDescriptor y.desc = some sig → argsL.length = sig.parameters.length)
    (hstack : g.stack = argsL.reverse ++ .ref b :: rest) (hW : 2 * g.monitorRoom + (rest.map fun v => v.category).sum ≤ W9) (hdg : decode c.code g.pc = .ok (.invokevirtual index, 3))
    (hpre : ∀ vm₁, s.WarmedH vm₁ → Pre ⟨T.setVm vm₁, locs, cells, slots⟩ (Value.ref b :: argsL).toArray) :
    (∃ (v : Option Value) (vm₁ : Vm) (B : Pt), s.WarmedH vm₁ ∧ Stand p l e R s m args below meth c B.U B.locs B.cells B.slots ∧ Post ⟨T.setVm vm₁, locs, cells, slots⟩ (Value.ref b :: argsL).toArray v B ∧
      ∀ target, Steps p.tables e below (B.U.setTop { g with pc := g.pc + 3, stack := v.toList ++ rest }) target → Steps p.tables e below (T.setTop g) target) ∨
    (∃ (q : Addr) (vm₁ : Vm) (B : Pt), s.WarmedH vm₁ ∧ Stand p l e R s m args below meth c B.U B.locs B.cells B.slots ∧ PostX ⟨T.setVm vm₁, locs, cells, slots⟩ (Value.ref b :: argsL).toArray q B ∧
      Steps p.tables e below (T.setTop g) ((B.U.setTop { g with stack := rest }).pushFrame (.throwing q))) := by
  obtain ⟨mk, methM, hnamed, hmethM, hstM, habM⟩ := Cond.instanceMethod_spec hinst
  obtain ⟨m8, methM', cM, hn8, hmethM', -, -, -, -, -, -, hsigM⟩ := Cond.codeWith_spec hcode
  cases Option.some.inj (hn8.symm.trans hnamed)
  cases hmethM.symm.trans hmethM'
  obtain ⟨c2, r2, m2, q1, q2, q3, q4, kP, hkP, hkPi⟩ := Cond.selects_spec hsel
  cases hcls.symm.trans q1
  cases (State.methodFound?_of_named hnamed hy).symm.trans q2
  cases hnamed.symm.trans q3
  have hselP : selectMethod e.platform s.vm cellB.cls mk = .method mk := by rw [Launch.admits_selectMethod X.admits]; exact q4
  obtain ⟨vm₁, X₁, hstep₁⟩ := X.invokevirtual hexec hown hlink hnamed hmethM hstM hkP hkPi hy (a := b) (cell := cellB) hcell
    (fun z h => by rw [h] at hobj; cases hobj) hselP hmethM habM hkP hkPi (g := g) hg (argsL := argsL) (rest := rest) (hlen _ hsigM) hstack hdg
  rcases hK m meth c ⟨T.setVm vm₁, locs, cells, slots⟩ { g with stack := rest } (.invokevirtual index) mk (Value.ref b :: argsL).toArray X₁ hg hsize hdg hW (X₁.named hnamed) (hpre vm₁ X₁.warmed) with ⟨v, B, X', hpost, hsteps⟩ | ⟨q, B, X', hpost, hsteps⟩
  · exact Or.inl ⟨v, vm₁, B, X₁.warmed, X', hpost, fun target h => hstep₁ _ fun acts => by rw [doInvoke_state]; exact hsteps.trans h⟩
  · exact Or.inr ⟨q, vm₁, B, X₁.warmed, X', hpost, hstep₁ _ fun acts => by rw [doInvoke_state]; exact hsteps⟩
theorem vx_callSX (X : Stand p l e R s m args below meth c T locs cells slots) (hexec : p.tables.exec = Jvm.exec) {own : String} {index : Nat} {y : MethodName} {bytes : ByteArray} {maxL : Nat} {ret : Option FieldType} {hh : List (Nat × Nat × Nat × Nat)}
    (hown : s.vm.findClass own = some m.cls) (hlink : (Cond.methodLink own index y).before args s = true) (hstat : (Cond.static y).before args s = true) (hinit : (Cond.initialized y.cls).before args s = true)
    (hcode : (Cond.codeWith y bytes maxL ret hh).before args s = true) (hy : y.cls ≠ "java/lang/invoke/MethodHandle" ∧ y.cls ≠ "java/lang/invoke/VarHandle")
    {W9 : Nat} {Pre : Pt → Array Value → Prop} {Post : Pt → Array Value → Option Value → Pt → Prop} {PostX : Pt → Array Value → Addr → Pt → Prop} (hK : vx_Back l R p e below s args y 3 W9 Pre Post PostX)
    {g : JFrame} (hg : g.method = m) (hsize : g.locals.size = c.maxLocals) {argsL rest : List Value} (hlen : ∀ sig, parseMethodDescriptor y.desc = some sig → argsL.length = sig.parameters.length)
    (hstack : g.stack = argsL.reverse ++ rest) (hW : 2 * g.monitorRoom + (rest.map fun v => v.category).sum ≤ W9) (hdg : decode c.code g.pc = .ok (.invokestatic index, 3))
    (hpre : ∀ vm₁, s.WarmedH vm₁ → Pre ⟨T.setVm vm₁, locs, cells, slots⟩ argsL.toArray) :
    (∃ (v : Option Value) (vm₁ : Vm) (B : Pt), s.WarmedH vm₁ ∧ Stand p l e R s m args below meth c B.U B.locs B.cells B.slots ∧ Post ⟨T.setVm vm₁, locs, cells, slots⟩ argsL.toArray v B ∧
      ∀ target, Steps p.tables e below (B.U.setTop { g with pc := g.pc + 3, stack := v.toList ++ rest }) target → Steps p.tables e below (T.setTop g) target) ∨
    (∃ (q : Addr) (vm₁ : Vm) (B : Pt), s.WarmedH vm₁ ∧ Stand p l e R s m args below meth c B.U B.locs B.cells B.slots ∧ PostX ⟨T.setVm vm₁, locs, cells, slots⟩ argsL.toArray q B ∧
      Steps p.tables e below (T.setTop g) ((B.U.setTop { g with stack := rest }).pushFrame (.throwing q))) := by
  obtain ⟨mk, methM, cM, hnamed, hmethM, -, -, -, -, -, -, hsigM⟩ := Cond.codeWith_spec hcode
  have hstatic : methM.isStatic = true := Cond.static_spec hnamed hmethM hstat
  obtain ⟨kP, hkP, -⟩ := className_of_methodNamed hnamed
  have hinitP : kP.init = .initialized := Cond.initialized_spec (findClass_of_methodNamed hnamed) hkP hinit
  obtain ⟨vm₁, X₁, hstep₁⟩ := X.invokestatic hexec hown hlink hnamed hmethM hstatic hkP hinitP hy (g := g) hg (argsL := argsL) (rest := rest) (hlen _ hsigM) hstack hdg
  rcases hK m meth c ⟨T.setVm vm₁, locs, cells, slots⟩ { g with stack := rest } (.invokestatic index) mk argsL.toArray X₁ hg hsize hdg hW (X₁.named hnamed) (hpre vm₁ X₁.warmed) with ⟨v, B, X', hpost, hsteps⟩ | ⟨q, B, X', hpost, hsteps⟩
  · exact Or.inl ⟨v, vm₁, B, X₁.warmed, X', hpost, fun target h => hstep₁ _ fun acts => by rw [doInvoke_state]; exact hsteps.trans h⟩
  · exact Or.inr ⟨q, vm₁, B, X₁.warmed, X', hpost, hstep₁ _ fun acts => by rw [doInvoke_state]; exact hsteps⟩
theorem vx_callVW (X : Stand p l e R s m args below meth c T locs cells slots) (hexec : p.tables.exec = Jvm.exec) {own C : String} {index : Nat} {y : MethodName} {bytes : ByteArray} {maxL : Nat} {ret : Option FieldType} {hh : List (Nat × Nat × Nat × Nat)}
    (hown : s.vm.findClass own = some m.cls) (hlink : (Cond.methodLink own index y).before args s = true) (hinst : (Cond.instanceMethod y).before args s = true) (hsel : (Cond.selects C y y).before args s = true)
    (hcode : (Cond.codeWith y bytes maxL ret hh).before args s = true) (hy : y.cls ≠ "java/lang/invoke/MethodHandle" ∧ y.cls ≠ "java/lang/invoke/VarHandle")
    {W9 : Nat} {Pre : Pt → Array Value → Prop} {Post : Pt → Array Value → Option Value → Pt → Prop} (hK : Back l R p e below s args y 3 W9 Pre Post)
    {b : Addr} {cellB : Cell} (hcell : T.heap[b]? = some cellB) (hobj : cellB.vm.isStatics = false) (hcls : s.vm.findClass C = some cellB.cls)
    {g : JFrame} (hg : g.method = m) (hsize : g.locals.size = c.maxLocals) {argsL rest : List Value} (hlen : ∀ sig, parseMethodDescriptor y.desc = some sig → argsL.length = sig.parameters.length)
    (hstack : g.stack = argsL.reverse ++ .ref b :: rest) (hW : 2 * g.monitorRoom + (rest.map fun v => v.category).sum ≤ W9) (hdg : decode c.code g.pc = .ok (.invokevirtual index, 3))
    (hpre : ∀ vm₁, s.WarmedH vm₁ → Pre ⟨T.setVm vm₁, locs, cells, slots⟩ (Value.ref b :: argsL).toArray) :
    ∃ (v : Option Value) (vm₁ : Vm) (B : Pt), s.WarmedH vm₁ ∧ Stand p l e R s m args below meth c B.U B.locs B.cells B.slots ∧ Post ⟨T.setVm vm₁, locs, cells, slots⟩ (Value.ref b :: argsL).toArray v B ∧
      ∀ target, Steps p.tables e below (B.U.setTop { g with pc := g.pc + 3, stack := v.toList ++ rest }) target → Steps p.tables e below (T.setTop g) target := by
  obtain ⟨mk, methM, hnamed, hmethM, hstM, habM⟩ := Cond.instanceMethod_spec hinst
  obtain ⟨m8, methM', cM, hn8, hmethM', -, -, -, -, -, -, hsigM⟩ := Cond.codeWith_spec hcode
  cases Option.some.inj (hn8.symm.trans hnamed)
  cases hmethM.symm.trans hmethM'
  obtain ⟨c2, r2, m2, q1, q2, q3, q4, kP, hkP, hkPi⟩ := Cond.selects_spec hsel
  cases hcls.symm.trans q1
  cases (State.methodFound?_of_named hnamed hy).symm.trans q2
  cases hnamed.symm.trans q3
  have hselP : selectMethod e.platform s.vm cellB.cls mk = .method mk := by rw [Launch.admits_selectMethod X.admits]; exact q4
  obtain ⟨vm₁, X₁, hstep₁⟩ := X.invokevirtual hexec hown hlink hnamed hmethM hstM hkP hkPi hy (a := b) (cell := cellB) hcell
    (fun z h => by rw [h] at hobj; cases hobj) hselP hmethM habM hkP hkPi (g := g) hg (argsL := argsL) (rest := rest) (hlen _ hsigM) hstack hdg
  obtain ⟨v, B, X', hpost, hsteps⟩ := hK m meth c ⟨T.setVm vm₁, locs, cells, slots⟩ { g with stack := rest } (.invokevirtual index) mk (Value.ref b :: argsL).toArray X₁ hg hsize hdg hW (X₁.named hnamed) (hpre vm₁ X₁.warmed)
  exact ⟨v, vm₁, B, X₁.warmed, X', hpost, fun target h => hstep₁ _ fun acts => by rw [doInvoke_state]; exact hsteps.trans h⟩
abbrev vx_CVW (R : Room) (s : State) (args : Array Value) (own C : String) (index : Nat) (y : MethodName) (bytes : ByteArray) (maxL : Nat) (ret : Option FieldType) (hh : List (Nat × Nat × Nat × Nat)) (ws : List Cond) (rm : Room) (mc ms n : Nat) : Prop :=
  (rm.cells = mc ∧ rm.slots = ms ∧ rm.frames + 1 ≤ R.frames ∧ 8 + (maxL + 11) + rm.locals ≤ R.locals ∧ (∀ w ∈ ws, ∀ (a' : Array Value) (U : State), s.WarmedH U.vm → w.before a' U = true) ∧ Cond.codeWith y bytes maxL ret hh ∈ ws) ∧
  (Cond.codeWith y bytes maxL ret hh).before args s = true ∧ (Cond.initialized y.cls).before args s = true ∧ (y.cls ≠ "java/lang/invoke/MethodHandle" ∧ y.cls ≠ "java/lang/invoke/VarHandle") ∧
  (∀ sig, parseMethodDescriptor y.desc = some sig → n = sig.parameters.length) ∧ (Cond.methodLink own index y).before args s = true ∧ (Cond.instanceMethod y).before args s = true ∧ (Cond.selects C y y).before args s = true
theorem vx_cwVW {own C : String} {index maxL mc ms : Nat} {y : MethodName} {bytes : ByteArray} {ret : Option FieldType} {hh : List (Nat × Nat × Nat × Nat)} {Ts ws ws' : List Cond} {rm : Room} (n : Nat) (ht : ∀ w ∈ Ts, w.before args s = true) (hT : GoodIn Ts (wsV own index C y ws)) (hw : ws = Cond.codeWith y bytes maxL ret hh :: ws') (hrc : rm.cells = mc) (hrs : rm.slots = ms)
    (hd : y.cls = C ∧ y.cls ≠ "java/lang/invoke/MethodHandle" ∧ y.cls ≠ "java/lang/invoke/VarHandle" ∧ (parseMethodDescriptor y.desc).map (fun d => d.parameters.length) = some n) (hR : rm.frames + 1 ≤ R.frames ∧ 8 + (maxL + 11) + rm.locals ≤ R.locals) :
    vx_CVW R s args own C index y bytes maxL ret hh ws rm mc ms n := by
  obtain ⟨hC, hd⟩ := hd
  subst hC
  have ok : ∀ w ∈ wsV own index y.cls y ws, w.before args s = true := fun w h => ht w (hT w h).1
  have hG : GoodIn Ts ws := fun w h => hT w (by unfold wsV; exact List.mem_append_right _ h)
  have hc : Cond.codeWith y bytes maxL ret hh ∈ ws := by rw [hw]; exact List.mem_cons_self
  refine ⟨⟨hrc, hrs, hR.1, hR.2, pay_in ht hG, hc⟩, ht _ (hG _ hc).1, ok _ (by simp [wsV]), ⟨hd.1, hd.2.1⟩, fun sig h => ?_, ok _ (by simp [wsV]), ok _ (by simp [wsV]), ok _ (by simp [wsV])⟩
  have h2 := hd.2.2
  rw [h] at h2
  exact (Option.some.inj h2).symm
theorem vx_runVW {y : MethodName} {bytes cc : ByteArray} {maxL nL mc ms n index : Nat} {ret : Option FieldType} {hh : List (Nat × Nat × Nat × Nat)} {ws : List Cond} {rm : Room} {Pc : Array Value → State → Prop} {Qc : Array Value → State → Outcome → State → Prop} {free : Addr → Prop} {Ts : List Cond} {own C : String} {b : Addr} {As rest : List Value} {g : JFrame}
    (S : CallFix p m c cc nL s args Ts own) (hM : Met l y ws rm Pc Qc mc ms free) (cw : vx_CVW R s args own C index y bytes maxL ret hh ws rm mc ms n) (hp : PreV s H C b Pc As)
    (hg : g.method = m) (hn : As.length = n) (hsize : g.locals.size = nL) (hstack : g.stack = As.reverse ++ .ref b :: rest) (hW : 2 * g.monitorRoom + (rest.map fun v => v.category).sum ≤ 8) (hdg : decode cc g.pc = .ok (.invokevirtual index, 3)) (hf : cells + mc ≤ R.cells ∧ slots + ms ≤ R.slots) :
    va_Run p l e R s m args below meth c H locs cells slots mc ms g rest (Qc (Value.ref b :: As).toArray) free := by
  obtain ⟨⟨hrc, hrs, hfr, hlo, hws, hcw⟩, hcode, hini, hy, hlen, hl, hin, hse⟩ := cw
  have hK : Back l R p e below s args y 3 8 (PreOf R mc ms Pc) (PostOf Qc mc ms free) := va_backW (hh := hh) (bytes := bytes) (maxL := maxL) (ret := ret) hM hp.1 hrc hrs hfr hlo hws hcw (fun a' U hW => word_at hW (Or.inl (by first | rfl | simp [Cond.onTables, Cond.keeps, Cond.steady])) hini)
  obtain ⟨hx, hb, hml, ho, -⟩ := S
  obtain ⟨-, ⟨cellB, hcB, hoB, hclB⟩, hPc⟩ := hp
  intro T hT X
  obtain ⟨v, vm₁, ⟨U', l2, c2, s2⟩, hW₁, X', ⟨g', mk, t, L, e1, e2, hq, h1, hL, h2, h3⟩, st⟩ := vx_callVW X hx (C := C) (hh := hh) (bytes := bytes) (maxL := maxL) (ret := ret) ho hl hin hse hcode hy hK (by rw [hT]; exact hcB) hoB hclB hg (hsize.trans hml.symm) (argsL := As) (rest := rest) (fun sig h => hn.trans (hlen sig h)) hstack hW (by rw [hb]; exact hdg)
    (fun vm₁ hW₁ => ⟨hf.1, hf.2, hPc (T.setVm vm₁) hT hW₁⟩)
  dsimp only [Pt.U, Pt.locs, Pt.cells, Pt.slots] at X' e1 e2 h1 h2 h3 st
  subst h1; subst h2; subst h3
  exact ⟨v, (T.setVm vm₁).calling g' mk (Value.ref b :: As).toArray, t, U', L, hT, X', hL, e1, e2, hq, st⟩
section
variable {y : MethodName} {bytes cc : ByteArray} {maxL nL mc ms n index : Nat} {ret : Option FieldType} {ws : List Cond} {rm : Room} {Pc : Array Value → State → Prop} {Qc : Array Value → State → Outcome → State → Prop} {XC : String → State → State → Prop} {free : Addr → Prop} {Ts : List Cond} {own C : String} {b : Addr} {As rest : List Value} {g : JFrame}
theorem vx_runVX {hh : List (Nat × Nat × Nat × Nat)} (S : CallFix p m c cc nL s args Ts own) (hM : vx_Met l y ws rm Pc Qc XC mc ms free) (cw : vx_CVW R s args own C index y bytes maxL ret hh ws rm mc ms n) (hp : PreV s H C b Pc As)
    (hg : g.method = m) (hn : As.length = n) (hsize : g.locals.size = nL) (hstack : g.stack = As.reverse ++ .ref b :: rest) (hW : 2 * g.monitorRoom + (rest.map fun v => v.category).sum ≤ 8) (hdg : decode cc g.pc = .ok (.invokevirtual index, 3)) (hf : cells + mc ≤ R.cells ∧ slots + ms ≤ R.slots) :
    vx_Run p l e R s m args below meth c H locs cells slots mc ms g rest (Qc (Value.ref b :: As).toArray) XC free := by
  obtain ⟨⟨hrc, hrs, hfr, hlo, hws, hcw⟩, hcode, hini, hy, hlen, hl, hin, hse⟩ := cw
  have hK : vx_Back l R p e below s args y 3 8 (PreOf R mc ms Pc) (PostOf Qc mc ms free) (vx_Post XC mc ms free) := vx_backW (hh := hh) (bytes := bytes) (maxL := maxL) (ret := ret) hM hp.1 hrc hrs hfr hlo hws hcw (fun a' U hW => word_at hW (Or.inl (by first | rfl | simp [Cond.onTables, Cond.keeps, Cond.steady])) hini)
  obtain ⟨hx, hb, hml, ho, -⟩ := S
  obtain ⟨-, ⟨cellB, hcB, hoB, hclB⟩, hPc⟩ := hp
  intro T hT X
  rcases vx_callVX X hx (C := C) (hh := hh) (bytes := bytes) (maxL := maxL) (ret := ret) ho hl hin hse hcode hy hK (by rw [hT]; exact hcB) hoB hclB hg (hsize.trans hml.symm) (argsL := As) (rest := rest) (fun sig h => hn.trans (hlen sig h)) hstack hW (by rw [hb]; exact hdg)
    (fun vm₁ hW₁ => ⟨hf.1, hf.2, hPc (T.setVm vm₁) hT hW₁⟩) with ⟨v, vm₁, ⟨U', l2, c2, s2⟩, hW₁, X', ⟨g', mk, t, L, e1, e2, hq, h1, hL, h2, h3⟩, st⟩ | ⟨q, vm₁, ⟨U', l2, c2, s2⟩, hW₁, X', ⟨g', mk, t, L, E, ce, e1, e2, hq, hce, hcv, hcl, h1, hL, h2, h3⟩, st⟩
  · dsimp only [Pt.U, Pt.locs, Pt.cells, Pt.slots] at X' e1 e2 h1 h2 h3 st
    subst h1; subst h2; subst h3
    exact Or.inl ⟨v, (T.setVm vm₁).calling g' mk (Value.ref b :: As).toArray, t, U', L, hT, X', hL, e1, e2, hq, st⟩
  · dsimp only [Pt.U, Pt.locs, Pt.cells, Pt.slots] at X' e1 e2 h1 h2 h3 st hcl
    subst h1; subst h2; subst h3
    exact Or.inr ⟨q, (T.setVm vm₁).calling g' mk (Value.ref b :: As).toArray, t, U', L, E, ce, hT, X', hL, e1, e2, hq, hce, hcv, vx_cls hW₁ hcl, st⟩
theorem vx_runSX {hh : List (Nat × Nat × Nat × Nat)} (S : CallFix p m c cc nL s args Ts own) (hM : vx_Met l y ws rm Pc Qc XC mc ms free) (cw : vx_CSW R s args own index y bytes maxL ret hh ws rm mc ms n) (hp : PreS s H Pc As)
    (hg : g.method = m) (hn : As.length = n) (hsize : g.locals.size = nL) (hstack : g.stack = As.reverse ++ rest) (hW : 2 * g.monitorRoom + (rest.map fun v => v.category).sum ≤ 8) (hdg : decode cc g.pc = .ok (.invokestatic index, 3)) (hf : cells + mc ≤ R.cells ∧ slots + ms ≤ R.slots) :
    vx_Run p l e R s m args below meth c H locs cells slots mc ms g rest (Qc As.toArray) XC free := by
  obtain ⟨⟨hrc, hrs, hfr, hlo, hws, hcw⟩, hcode, hini, hy, hlen, hl, hstt⟩ := cw
  have hK : vx_Back l R p e below s args y 3 8 (PreOf R mc ms Pc) (PostOf Qc mc ms free) (vx_Post XC mc ms free) := vx_backW (hh := hh) (bytes := bytes) (maxL := maxL) (ret := ret) hM hp.1 hrc hrs hfr hlo hws hcw (fun a' U hW => word_at hW (Or.inl (by first | rfl | simp [Cond.onTables, Cond.keeps, Cond.steady])) hini)
  obtain ⟨hx, hb, hml, ho, -⟩ := S
  intro T hT X
  rcases vx_callSX X hx (hh := hh) (bytes := bytes) (maxL := maxL) (ret := ret) ho hl hstt hini hcode hy hK hg (hsize.trans hml.symm) (argsL := As) (rest := rest) (fun sig h => hn.trans (hlen sig h)) hstack hW (by rw [hb]; exact hdg)
    (fun vm₁ hW₁ => ⟨hf.1, hf.2, hp.2 (T.setVm vm₁) hT hW₁⟩) with ⟨v, vm₁, ⟨U', l2, c2, s2⟩, hW₁, X', ⟨g', mk, t, L, e1, e2, hq, h1, hL, h2, h3⟩, st⟩ | ⟨q, vm₁, ⟨U', l2, c2, s2⟩, hW₁, X', ⟨g', mk, t, L, E, ce, e1, e2, hq, hce, hcv, hcl, h1, hL, h2, h3⟩, st⟩
  · dsimp only [Pt.U, Pt.locs, Pt.cells, Pt.slots] at X' e1 e2 h1 h2 h3 st
    subst h1; subst h2; subst h3
    exact Or.inl ⟨v, (T.setVm vm₁).calling g' mk As.toArray, t, U', L, hT, X', hL, e1, e2, hq, st⟩
  · dsimp only [Pt.U, Pt.locs, Pt.cells, Pt.slots] at X' e1 e2 h1 h2 h3 st hcl
    subst h1; subst h2; subst h3
    exact Or.inr ⟨q, (T.setVm vm₁).calling g' mk As.toArray, t, U', L, E, ce, hT, X', hL, e1, e2, hq, hce, hcv, vx_cls hW₁ hcl, st⟩
end
end VXH
theorem vx_ofWH {l : Launch} {y : MethodName} {ws ws' : List Cond} {rm : Room} {Pc : Array Value → State → Prop} {Qc : Array Value → State → Outcome → State → Prop} {XC : String → State → State → Prop} {mc ms : Nat} {free : Addr → Prop} {cc : ByteArray} {maxL : Nat} {ret : Option FieldType} {hh : List (Nat × Nat × Nat × Nat)}
    (hy : plainName y.cls = true) (hw : ws = Cond.codeWith y cc maxL ret hh :: ws')
    (body : ∀ p e s m args below meth c s₁, BodyLoose p l y (headSpec ws rm) cc maxL ret e s m args below meth c s₁ → c.maxLocals = maxL → Pc args s →
      W p l e (headSpec ws rm).room s m args below meth c s.heap [] 0 0 (vx_MQ below Qc XC args s mc ms free) (entryFrame m args maxL)) : vx_Met l y ws rm Pc Qc XC mc ms free := by
  refine MetFree.of_bodyS (code := cc) (maxLocals := maxL) (ret := ret) hy ?_ ?_
  · intro args s m h hn
    obtain ⟨m9, meth, c, hn9, h1, h2, h3, h4, -, h5, h6, -⟩ := Cond.codeWith_spec (atoms_spec (ws := ws) h _ (by rw [hw]; exact List.mem_cons_self))
    cases hn.symm.trans hn9
    exact ⟨meth, c, h1, h2, h3, h4, h5, h6⟩
  · intro p e s m args below meth c s₁ B hml hP _
    have hh0 : s₁.heap = s.heap := by rw [B.state]; rfl
    obtain ⟨t, a1, o, b1, b2, b3⟩ := body p e s m args below meth c s₁ B hml hP s₁ hh0 (Stand.of_body B)
    exact ⟨t, o, a1, b1, b2, b3⟩
/-! ===== END ===== -/
end
section
def RX0 : String := "ClayTraps$Squad"
def TX0 : u_T := fun k => match k with
  | 0 => ("ClayTraps$Squad", "swings", "[I", true)
  | 1 => ("ClayTraps$Squad", "steadinesses", "[I", true)
  | 2 => ("ClayTraps$Squad", "fatigues", "[I", true)
  | 3 => ("ClayTraps$Squad", "scores", "[I", true)
  | 4 => ("ClayTraps$Squad", "firsts", "[I", true)
  | 5 => ("ClayTraps$Squad", "misses", "[I", true)
  | 6 => ("ClayTraps$Squad", "left", "[Z", true)
  | 7 => ("ClayTraps$Squad", "hits", "[Z", true)
  | _ => ("ClayTraps$Squad", "size", "I", false)
def tyX0 : Nat → FieldType := fun k => match k with
  | 0 => .array .int
  | 1 => .array .int
  | 2 => .array .int
  | 3 => .array .int
  | 4 => .array .int
  | 5 => .array .int
  | 6 => .array .boolean
  | 7 => .array .boolean
  | _ => .int
abbrev wsX00 : List Cond := u_ws RX0 TX0 9
theorem nmX0 : ∀ a, a < 9 → ∀ b, b < 9 → a ≠ b → (TX0 a).2.1 ≠ (TX0 b).2.1 := by decide +kernel
theorem tyX0_ok : ∀ k, k < 9 → parseFieldDescriptor (TX0 k).2.2.1 = some (tyX0 k) := by decide +kernel
abbrev cX0_init : ByteArray := prog_2_method_1_code
def yX0_init : MethodName := ⟨RX0, "<init>", "()V"⟩
abbrev cX0_enter : ByteArray := prog_2_method_2_code
def yX0_enter : MethodName := ⟨RX0, "enter", "(II)I"⟩
abbrev cX0_takeOver : ByteArray := prog_2_method_3_code
def yX0_takeOver : MethodName := ⟨RX0, "takeOver", "(LClayTraps$Squad;)V"⟩
abbrev cX0_trouble : ByteArray := prog_2_method_4_code
def yX0_trouble : MethodName := ⟨RX0, "trouble", "(II)I"⟩
abbrev cX0_outcome : ByteArray := prog_2_method_5_code
def yX0_outcome : MethodName := ⟨RX0, "outcome", "(II)I"⟩
abbrev cX0_shoot : ByteArray := prog_2_method_6_code
def yX0_shoot : MethodName := ⟨RX0, "shoot", "(II)V"⟩
abbrev cX0_playAlone : ByteArray := prog_2_method_7_code
def yX0_playAlone : MethodName := ⟨RX0, "playAlone", "(LClayTraps$Traps;III)V"⟩
abbrev cX0_play : ByteArray := prog_2_method_8_code
def yX0_play : MethodName := ⟨RX0, "play", "(LClayTraps$Traps;II)I"⟩
abbrev cX0_leading : ByteArray := prog_2_method_9_code
def yX0_leading : MethodName := ⟨RX0, "leading", "()I"⟩
abbrev cX0_countTied : ByteArray := prog_2_method_10_code
def yX0_countTied : MethodName := ⟨RX0, "countTied", "()I"⟩
abbrev cX0_countAbove : ByteArray := prog_2_method_11_code
def yX0_countAbove : MethodName := ⟨RX0, "countAbove", "(I)I"⟩
abbrev cX0_totalScore : ByteArray := prog_2_method_12_code
def yX0_totalScore : MethodName := ⟨RX0, "totalScore", "()I"⟩
abbrev cX0_settleTie : ByteArray := prog_2_method_13_code
def yX0_settleTie : MethodName := ⟨RX0, "settleTie", "()I"⟩
abbrev cX0_shootRound : ByteArray := prog_2_method_14_code
def yX0_shootRound : MethodName := ⟨RX0, "shootRound", "(I)V"⟩
abbrev cX0_keepThoseWhoHit : ByteArray := prog_2_method_15_code
def yX0_keepThoseWhoHit : MethodName := ⟨RX0, "keepThoseWhoHit", "()V"⟩
abbrev cX0_countLeft : ByteArray := prog_2_method_16_code
def yX0_countLeft : MethodName := ⟨RX0, "countLeft", "()I"⟩
abbrev cX0_firstLeft : ByteArray := prog_2_method_17_code
def yX0_firstLeft : MethodName := ⟨RX0, "firstLeft", "()I"⟩
def RX1 : String := "ClayTraps$Traps"
def TX1 : u_T := fun k => match k with
  | 0 => ("ClayTraps$Traps", "bases", "[I", true)
  | _ => ("ClayTraps$Traps", "spreads", "[I", true)
def tyX1 : Nat → FieldType := fun k => match k with
  | 0 => .array .int
  | _ => .array .int
abbrev wsX10 : List Cond := u_ws RX1 TX1 2
theorem nmX1 : ∀ a, a < 2 → ∀ b, b < 2 → a ≠ b → (TX1 a).2.1 ≠ (TX1 b).2.1 := by decide +kernel
theorem tyX1_ok : ∀ k, k < 2 → parseFieldDescriptor (TX1 k).2.2.1 = some (tyX1 k) := by decide +kernel
abbrev cX1_init : ByteArray := prog_3_method_1_code
def yX1_init : MethodName := ⟨RX1, "<init>", "()V"⟩
abbrev cX1_angleAt : ByteArray := prog_3_method_2_code
def yX1_angleAt : MethodName := ⟨RX1, "angleAt", "(II)I"⟩
abbrev cX1_angleIn : ByteArray := prog_3_method_3_code
def yX1_angleIn : MethodName := ⟨RX1, "angleIn", "(II)I"⟩
abbrev cX1_amountAt : ByteArray := prog_3_method_4_code
def yX1_amountAt : MethodName := ⟨RX1, "amountAt", "(II)I"⟩
abbrev cX1_amountIn : ByteArray := prog_3_method_5_code
def yX1_amountIn : MethodName := ⟨RX1, "amountIn", "(II)I"⟩
abbrev cX1_hardestAt : ByteArray := prog_3_method_6_code
def yX1_hardestAt : MethodName := ⟨RX1, "hardestAt", "(I)I"⟩
abbrev cX1_greatestAmount : ByteArray := prog_3_method_7_code
def yX1_greatestAmount : MethodName := ⟨RX1, "greatestAmount", "()I"⟩
def RX2 : String := "ClayTraps"
def TX2 : u_T := fun k => match k with
  | 0 => ("ClayTraps", "traps", "LClayTraps$Traps;", true)
  | 1 => ("ClayTraps", "squad", "LClayTraps$Squad;", true)
  | 2 => ("ClayTraps", "trial", "LClayTraps$Squad;", true)
  | _ => ("ClayTraps", "turn", "I", false)
def tyX2 : Nat → FieldType := fun k => match k with
  | 0 => .object "ClayTraps$Traps"
  | 1 => .object "ClayTraps$Squad"
  | 2 => .object "ClayTraps$Squad"
  | _ => .int
abbrev wsX20 : List Cond := u_ws RX2 TX2 4
theorem nmX2 : ∀ a, a < 4 → ∀ b, b < 4 → a ≠ b → (TX2 a).2.1 ≠ (TX2 b).2.1 := by decide +kernel
theorem tyX2_ok : ∀ k, k < 4 → parseFieldDescriptor (TX2 k).2.2.1 = some (tyX2 k) := by decide +kernel
abbrev cX2_init : ByteArray := prog_1_method_1_code
def yX2_init : MethodName := ⟨RX2, "<init>", "()V"⟩
abbrev cX2_addGun : ByteArray := prog_1_method_2_code
def yX2_addGun : MethodName := ⟨RX2, "addGun", "(II)I"⟩
abbrev cX2_setTrap : ByteArray := prog_1_method_3_code
def yX2_setTrap : MethodName := ⟨RX2, "setTrap", "(III)I"⟩
abbrev cX2_rest : ByteArray := prog_1_method_4_code
def yX2_rest : MethodName := ⟨RX2, "rest", "(I)I"⟩
abbrev cX2_pass : ByteArray := prog_1_method_5_code
def yX2_pass : MethodName := ⟨RX2, "pass", "(I)I"⟩
abbrev cX2_shootOff : ByteArray := prog_1_method_6_code
def yX2_shootOff : MethodName := ⟨RX2, "shootOff", "()I"⟩
abbrev cX2_turn : ByteArray := prog_1_method_7_code
def yX2_turn : MethodName := ⟨RX2, "turn", "()I"⟩
abbrev cX2_angle : ByteArray := prog_1_method_8_code
def yX2_angle : MethodName := ⟨RX2, "angle", "(II)I"⟩
abbrev cX2_hardestClay : ByteArray := prog_1_method_9_code
def yX2_hardestClay : MethodName := ⟨RX2, "hardestClay", "(I)I"⟩
abbrev cX2_standOf : ByteArray := prog_1_method_10_code
def yX2_standOf : MethodName := ⟨RX2, "standOf", "(I)I"⟩
abbrev cX2_angleFor : ByteArray := prog_1_method_11_code
def yX2_angleFor : MethodName := ⟨RX2, "angleFor", "(I)I"⟩
abbrev cX2_guns : ByteArray := prog_1_method_12_code
def yX2_guns : MethodName := ⟨RX2, "guns", "()I"⟩
abbrev cX2_scoreOf : ByteArray := prog_1_method_13_code
def yX2_scoreOf : MethodName := ⟨RX2, "scoreOf", "(I)I"⟩
abbrev cX2_firstsOf : ByteArray := prog_1_method_14_code
def yX2_firstsOf : MethodName := ⟨RX2, "firstsOf", "(I)I"⟩
abbrev cX2_missesOf : ByteArray := prog_1_method_15_code
def yX2_missesOf : MethodName := ⟨RX2, "missesOf", "(I)I"⟩
abbrev cX2_fatigueOf : ByteArray := prog_1_method_16_code
def yX2_fatigueOf : MethodName := ⟨RX2, "fatigueOf", "(I)I"⟩
abbrev cX2_wouldHit : ByteArray := prog_1_method_17_code
def yX2_wouldHit : MethodName := ⟨RX2, "wouldHit", "(I)I"⟩
abbrev cX2_leader : ByteArray := prog_1_method_18_code
def yX2_leader : MethodName := ⟨RX2, "leader", "()I"⟩
abbrev cX2_tied : ByteArray := prog_1_method_19_code
def yX2_tied : MethodName := ⟨RX2, "tied", "()I"⟩
abbrev cX2_rankOf : ByteArray := prog_1_method_20_code
def yX2_rankOf : MethodName := ⟨RX2, "rankOf", "(I)I"⟩
abbrev cX2_scoreIn : ByteArray := prog_1_method_21_code
def yX2_scoreIn : MethodName := ⟨RX2, "scoreIn", "(II)I"⟩
abbrev cX2_turnsUntilMiss : ByteArray := prog_1_method_22_code
def yX2_turnsUntilMiss : MethodName := ⟨RX2, "turnsUntilMiss", "(I)I"⟩
abbrev cX2_leaderIn : ByteArray := prog_1_method_23_code
def yX2_leaderIn : MethodName := ⟨RX2, "leaderIn", "(I)I"⟩
abbrev cX2_wouldWin : ByteArray := prog_1_method_24_code
def yX2_wouldWin : MethodName := ⟨RX2, "wouldWin", "()I"⟩
abbrev cX2_bestRest : ByteArray := prog_1_method_25_code
def yX2_bestRest : MethodName := ⟨RX2, "bestRest", "(I)I"⟩
abbrev cX2_swingWanted : ByteArray := prog_1_method_26_code
def yX2_swingWanted : MethodName := ⟨RX2, "swingWanted", "(I)I"⟩
abbrev cX2_meanScore : ByteArray := prog_1_method_27_code
def yX2_meanScore : MethodName := ⟨RX2, "meanScore", "()D"⟩
abbrev cX2_digest : ByteArray := prog_1_method_28_code
def yX2_digest : MethodName := ⟨RX2, "digest", "()J"⟩
abbrev cX2_checkStand : ByteArray := prog_1_method_29_code
def yX2_checkStand : MethodName := ⟨RX2, "checkStand", "(I)V"⟩
abbrev cX2_checkGun : ByteArray := prog_1_method_30_code
def yX2_checkGun : MethodName := ⟨RX2, "checkGun", "(I)V"⟩
abbrev cX2_checkTurns : ByteArray := prog_1_method_31_code
def yX2_checkTurns : MethodName := ⟨RX2, "checkTurns", "(I)V"⟩
abbrev cX2_clayIn : ByteArray := prog_1_method_32_code
def yX2_clayIn : MethodName := ⟨RX2, "clayIn", "(I)I"⟩
abbrev cX2_standIn : ByteArray := prog_1_method_33_code
def yX2_standIn : MethodName := ⟨RX2, "standIn", "(II)I"⟩
abbrev cX2_scoreWithRest : ByteArray := prog_1_method_34_code
def yX2_scoreWithRest : MethodName := ⟨RX2, "scoreWithRest", "(II)I"⟩
abbrev cX2_fold : ByteArray := prog_1_method_35_code
def yX2_fold : MethodName := ⟨RX2, "fold", "(JJ)J"⟩
def RX3 : String := "ClayTrapsModel"
def TX3 : u_T := fun k => match k with
  | 0 => ("ClayTrapsModel", "thrown", "I", false)
  | 1 => ("ClayTrapsModel", "guns", "I", false)
  | 2 => ("ClayTrapsModel", "swing", "[I", true)
  | 3 => ("ClayTrapsModel", "steady", "[I", true)
  | 4 => ("ClayTrapsModel", "base", "[I", true)
  | 5 => ("ClayTrapsModel", "spread", "[I", true)
  | 6 => ("ClayTrapsModel", "now", "[I", true)
  | _ => ("ClayTrapsModel", "kept", "[I", true)
def tyX3 : Nat → FieldType := fun k => match k with
  | 0 => .int
  | 1 => .int
  | 2 => .array .int
  | 3 => .array .int
  | 4 => .array .int
  | 5 => .array .int
  | 6 => .array .int
  | _ => .array .int
abbrev wsX30 : List Cond := u_ws RX3 TX3 8
theorem nmX3 : ∀ a, a < 8 → ∀ b, b < 8 → a ≠ b → (TX3 a).2.1 ≠ (TX3 b).2.1 := by decide +kernel
theorem tyX3_ok : ∀ k, k < 8 → parseFieldDescriptor (TX3 k).2.2.1 = some (tyX3 k) := by decide +kernel
abbrev cX3_init : ByteArray := prog_5_method_1_code
def yX3_init : MethodName := ⟨RX3, "<init>", "()V"⟩
abbrev cX3_thrown : ByteArray := prog_5_method_2_code
def yX3_thrown : MethodName := ⟨RX3, "thrown", "()I"⟩
abbrev cX3_no : ByteArray := prog_5_method_3_code
def yX3_no : MethodName := ⟨RX3, "no", "(I)I"⟩
abbrev cX3_ok : ByteArray := prog_5_method_4_code
def yX3_ok : MethodName := ⟨RX3, "ok", "(I)I"⟩
abbrev cX3_isFrom : ByteArray := prog_5_method_5_code
def yX3_isFrom : MethodName := ⟨RX3, "isFrom", "(III)Z"⟩
abbrev cX3_isGun : ByteArray := prog_5_method_6_code
def yX3_isGun : MethodName := ⟨RX3, "isGun", "(I)Z"⟩
abbrev cX3_keep : ByteArray := prog_5_method_7_code
def yX3_keep : MethodName := ⟨RX3, "keep", "()V"⟩
abbrev cX3_bringBack : ByteArray := prog_5_method_8_code
def yX3_bringBack : MethodName := ⟨RX3, "bringBack", "()V"⟩
abbrev cX3_at : ByteArray := prog_5_method_9_code
def yX3_at : MethodName := ⟨RX3, "at", "(II)I"⟩
abbrev cX3_clay : ByteArray := prog_5_method_10_code
def yX3_clay : MethodName := ⟨RX3, "clay", "()I"⟩
abbrev cX3_stand : ByteArray := prog_5_method_11_code
def yX3_stand : MethodName := ⟨RX3, "stand", "(I)I"⟩
abbrev cX3_far : ByteArray := prog_5_method_12_code
def yX3_far : MethodName := ⟨RX3, "far", "(I)I"⟩
abbrev cX3_hit : ByteArray := prog_5_method_13_code
def yX3_hit : MethodName := ⟨RX3, "hit", "(I)I"⟩
abbrev cX3_shoot : ByteArray := prog_5_method_14_code
def yX3_shoot : MethodName := ⟨RX3, "shoot", "(I)V"⟩
abbrev cX3_turnOn : ByteArray := prog_5_method_15_code
def yX3_turnOn : MethodName := ⟨RX3, "turnOn", "()V"⟩
abbrev cX3_turnsOn : ByteArray := prog_5_method_16_code
def yX3_turnsOn : MethodName := ⟨RX3, "turnsOn", "(I)V"⟩
abbrev cX3_missed : ByteArray := prog_5_method_17_code
def yX3_missed : MethodName := ⟨RX3, "missed", "()I"⟩
abbrev cX3_first : ByteArray := prog_5_method_18_code
def yX3_first : MethodName := ⟨RX3, "first", "()I"⟩
abbrev cX3_best : ByteArray := prog_5_method_19_code
def yX3_best : MethodName := ⟨RX3, "best", "()I"⟩
abbrev cX3_win : ByteArray := prog_5_method_20_code
def yX3_win : MethodName := ⟨RX3, "win", "()I"⟩
abbrev cX3_addGun : ByteArray := prog_5_method_21_code
def yX3_addGun : MethodName := ⟨RX3, "addGun", "(II)I"⟩
abbrev cX3_setTrap : ByteArray := prog_5_method_22_code
def yX3_setTrap : MethodName := ⟨RX3, "setTrap", "(III)I"⟩
abbrev cX3_rest : ByteArray := prog_5_method_23_code
def yX3_rest : MethodName := ⟨RX3, "rest", "(I)I"⟩
abbrev cX3_pass : ByteArray := prog_5_method_24_code
def yX3_pass : MethodName := ⟨RX3, "pass", "(I)I"⟩
abbrev cX3_shootOff : ByteArray := prog_5_method_25_code
def yX3_shootOff : MethodName := ⟨RX3, "shootOff", "()I"⟩
abbrev cX3_turn : ByteArray := prog_5_method_26_code
def yX3_turn : MethodName := ⟨RX3, "turn", "()I"⟩
abbrev cX3_angle : ByteArray := prog_5_method_27_code
def yX3_angle : MethodName := ⟨RX3, "angle", "(II)I"⟩
abbrev cX3_hardest : ByteArray := prog_5_method_28_code
def yX3_hardest : MethodName := ⟨RX3, "hardest", "(I)I"⟩
abbrev cX3_hardestClay : ByteArray := prog_5_method_29_code
def yX3_hardestClay : MethodName := ⟨RX3, "hardestClay", "(I)I"⟩
abbrev cX3_standOf : ByteArray := prog_5_method_30_code
def yX3_standOf : MethodName := ⟨RX3, "standOf", "(I)I"⟩
abbrev cX3_angleFor : ByteArray := prog_5_method_31_code
def yX3_angleFor : MethodName := ⟨RX3, "angleFor", "(I)I"⟩
abbrev cX3_guns : ByteArray := prog_5_method_32_code
def yX3_guns : MethodName := ⟨RX3, "guns", "()I"⟩
abbrev cX3_ofGun : ByteArray := prog_5_method_33_code
def yX3_ofGun : MethodName := ⟨RX3, "ofGun", "(II)I"⟩
abbrev cX3_scoreOf : ByteArray := prog_5_method_34_code
def yX3_scoreOf : MethodName := ⟨RX3, "scoreOf", "(I)I"⟩
abbrev cX3_firstsOf : ByteArray := prog_5_method_35_code
def yX3_firstsOf : MethodName := ⟨RX3, "firstsOf", "(I)I"⟩
abbrev cX3_missesOf : ByteArray := prog_5_method_36_code
def yX3_missesOf : MethodName := ⟨RX3, "missesOf", "(I)I"⟩
abbrev cX3_fatigueOf : ByteArray := prog_5_method_37_code
def yX3_fatigueOf : MethodName := ⟨RX3, "fatigueOf", "(I)I"⟩
abbrev cX3_wouldHit : ByteArray := prog_5_method_38_code
def yX3_wouldHit : MethodName := ⟨RX3, "wouldHit", "(I)I"⟩
abbrev cX3_leader : ByteArray := prog_5_method_39_code
def yX3_leader : MethodName := ⟨RX3, "leader", "()I"⟩
abbrev cX3_tied : ByteArray := prog_5_method_40_code
def yX3_tied : MethodName := ⟨RX3, "tied", "()I"⟩
abbrev cX3_rank : ByteArray := prog_5_method_41_code
def yX3_rank : MethodName := ⟨RX3, "rank", "(I)I"⟩
abbrev cX3_rankOf : ByteArray := prog_5_method_42_code
def yX3_rankOf : MethodName := ⟨RX3, "rankOf", "(I)I"⟩
abbrev cX3_scoreIn : ByteArray := prog_5_method_43_code
def yX3_scoreIn : MethodName := ⟨RX3, "scoreIn", "(II)I"⟩
abbrev cX3_untilMiss : ByteArray := prog_5_method_44_code
def yX3_untilMiss : MethodName := ⟨RX3, "untilMiss", "(I)I"⟩
abbrev cX3_turnsUntilMiss : ByteArray := prog_5_method_45_code
def yX3_turnsUntilMiss : MethodName := ⟨RX3, "turnsUntilMiss", "(I)I"⟩
abbrev cX3_firstIn : ByteArray := prog_5_method_46_code
def yX3_firstIn : MethodName := ⟨RX3, "firstIn", "(I)I"⟩
abbrev cX3_leaderIn : ByteArray := prog_5_method_47_code
def yX3_leaderIn : MethodName := ⟨RX3, "leaderIn", "(I)I"⟩
abbrev cX3_winner : ByteArray := prog_5_method_48_code
def yX3_winner : MethodName := ⟨RX3, "winner", "()I"⟩
abbrev cX3_wouldWin : ByteArray := prog_5_method_49_code
def yX3_wouldWin : MethodName := ⟨RX3, "wouldWin", "()I"⟩
abbrev cX3_restFor : ByteArray := prog_5_method_50_code
def yX3_restFor : MethodName := ⟨RX3, "restFor", "(I)I"⟩
abbrev cX3_bestRest : ByteArray := prog_5_method_51_code
def yX3_bestRest : MethodName := ⟨RX3, "bestRest", "(I)I"⟩
abbrev cX3_swingWanted : ByteArray := prog_5_method_52_code
def yX3_swingWanted : MethodName := ⟨RX3, "swingWanted", "(I)I"⟩
abbrev cX3_meanScore : ByteArray := prog_5_method_53_code
def yX3_meanScore : MethodName := ⟨RX3, "meanScore", "()D"⟩
abbrev cX3_digest : ByteArray := prog_5_method_54_code
def yX3_digest : MethodName := ⟨RX3, "digest", "()J"⟩
def RJ6 : String := "java/lang/Integer"
def TJ6 : u_T := fun k => match k with
  | _ => ("", "", "", false)
def tyJ6 : Nat → FieldType := fun k => match k with
  | _ => .int
abbrev wsJ60 : List Cond := u_ws RJ6 TJ6 0
theorem nmJ6 : ∀ a, a < 0 → ∀ b, b < 0 → a ≠ b → (TJ6 a).2.1 ≠ (TJ6 b).2.1 := by decide +kernel
theorem tyJ6_ok : ∀ k, k < 0 → parseFieldDescriptor (TJ6 k).2.2.1 = some (tyJ6 k) := by decide +kernel
abbrev cJ6_numberOfTrailingZeros_0f7a4 : ByteArray := prog_10_method_48_code
def yJ6_numberOfTrailingZeros_0f7a4 : MethodName := ⟨RJ6, "numberOfTrailingZeros", "(I)I"⟩
abbrev cJ6_bitCount_0f7a4 : ByteArray := prog_10_method_49_code
def yJ6_bitCount_0f7a4 : MethodName := ⟨RJ6, "bitCount", "(I)I"⟩
def RJ9 : String := "java/lang/Math"
def TJ9 : u_T := fun k => match k with
  | _ => ("", "", "", false)
def tyJ9 : Nat → FieldType := fun k => match k with
  | _ => .int
abbrev wsJ90 : List Cond := u_ws RJ9 TJ9 0
theorem nmJ9 : ∀ a, a < 0 → ∀ b, b < 0 → a ≠ b → (TJ9 a).2.1 ≠ (TJ9 b).2.1 := by decide +kernel
theorem tyJ9_ok : ∀ k, k < 0 → parseFieldDescriptor (TJ9 k).2.2.1 = some (tyJ9 k) := by decide +kernel
abbrev cJ9_floorMod_7cf53 : ByteArray := prog_11_method_50_code
def yJ9_floorMod_7cf53 : MethodName := ⟨RJ9, "floorMod", "(II)I"⟩
abbrev cJ9_abs_0f7a4 : ByteArray := prog_11_method_59_code
def yJ9_abs_0f7a4 : MethodName := ⟨RJ9, "abs", "(I)I"⟩
abbrev cJ9_max_7cf53 : ByteArray := prog_11_method_65_code
def yJ9_max_7cf53 : MethodName := ⟨RJ9, "max", "(II)I"⟩
def RJ0 : String := "java/lang/String"
def TJ0 : u_T := fun k => match k with
  | _ => ("", "", "", false)
def tyJ0 : Nat → FieldType := fun k => match k with
  | _ => .int
abbrev wsJ00 : List Cond := u_ws RJ0 TJ0 0
theorem nmJ0 : ∀ a, a < 0 → ∀ b, b < 0 → a ≠ b → (TJ0 a).2.1 ≠ (TJ0 b).2.1 := by decide +kernel
theorem tyJ0_ok : ∀ k, k < 0 → parseFieldDescriptor (TJ0 k).2.2.1 = some (tyJ0 k) := by decide +kernel
def RJ10 : String := "java/lang/System"
def TJ10 : u_T := fun k => match k with
  | _ => ("", "", "", false)
def tyJ10 : Nat → FieldType := fun k => match k with
  | _ => .int
abbrev wsJ100 : List Cond := u_ws RJ10 TJ10 0
theorem nmJ10 : ∀ a, a < 0 → ∀ b, b < 0 → a ≠ b → (TJ10 a).2.1 ≠ (TJ10 b).2.1 := by decide +kernel
theorem tyJ10_ok : ∀ k, k < 0 → parseFieldDescriptor (TJ10 k).2.2.1 = some (tyJ10 k) := by decide +kernel
def RL : String := "ClayTrapsLaw"
abbrev cL_addGun : ByteArray := method_3_code
def yL_addGun : MethodName := ⟨RL, "addGun", "(LClayTraps;II[J)I"⟩
abbrev cL_setTrap : ByteArray := method_4_code
def yL_setTrap : MethodName := ⟨RL, "setTrap", "(LClayTraps;III[J)I"⟩
abbrev cL_rest : ByteArray := method_5_code
def yL_rest : MethodName := ⟨RL, "rest", "(LClayTraps;I[J)I"⟩
abbrev cL_pass : ByteArray := method_6_code
def yL_pass : MethodName := ⟨RL, "pass", "(LClayTraps;I[J)I"⟩
abbrev cL_shootOff : ByteArray := method_7_code
def yL_shootOff : MethodName := ⟨RL, "shootOff", "(LClayTraps;[J)I"⟩
abbrev cL_angle : ByteArray := method_8_code
def yL_angle : MethodName := ⟨RL, "angle", "(LClayTraps;II[J)I"⟩
abbrev cL_hardestClay : ByteArray := method_9_code
def yL_hardestClay : MethodName := ⟨RL, "hardestClay", "(LClayTraps;I[J)I"⟩
abbrev cL_standOf : ByteArray := method_10_code
def yL_standOf : MethodName := ⟨RL, "standOf", "(LClayTraps;I[J)I"⟩
abbrev cL_angleFor : ByteArray := method_11_code
def yL_angleFor : MethodName := ⟨RL, "angleFor", "(LClayTraps;I[J)I"⟩
abbrev cL_scoreOf : ByteArray := method_12_code
def yL_scoreOf : MethodName := ⟨RL, "scoreOf", "(LClayTraps;I[J)I"⟩
abbrev cL_firstsOf : ByteArray := method_13_code
def yL_firstsOf : MethodName := ⟨RL, "firstsOf", "(LClayTraps;I[J)I"⟩
abbrev cL_missesOf : ByteArray := method_14_code
def yL_missesOf : MethodName := ⟨RL, "missesOf", "(LClayTraps;I[J)I"⟩
abbrev cL_fatigueOf : ByteArray := method_15_code
def yL_fatigueOf : MethodName := ⟨RL, "fatigueOf", "(LClayTraps;I[J)I"⟩
abbrev cL_wouldHit : ByteArray := method_16_code
def yL_wouldHit : MethodName := ⟨RL, "wouldHit", "(LClayTraps;I[J)I"⟩
abbrev cL_rankOf : ByteArray := method_17_code
def yL_rankOf : MethodName := ⟨RL, "rankOf", "(LClayTraps;I[J)I"⟩
abbrev cL_scoreIn : ByteArray := method_18_code
def yL_scoreIn : MethodName := ⟨RL, "scoreIn", "(LClayTraps;II[J)I"⟩
abbrev cL_turnsUntilMiss : ByteArray := method_19_code
def yL_turnsUntilMiss : MethodName := ⟨RL, "turnsUntilMiss", "(LClayTraps;I[J)I"⟩
abbrev cL_leaderIn : ByteArray := method_20_code
def yL_leaderIn : MethodName := ⟨RL, "leaderIn", "(LClayTraps;I[J)I"⟩
abbrev cL_bestRest : ByteArray := method_21_code
def yL_bestRest : MethodName := ⟨RL, "bestRest", "(LClayTraps;I[J)I"⟩
abbrev cL_swingWanted : ByteArray := method_22_code
def yL_swingWanted : MethodName := ⟨RL, "swingWanted", "(LClayTraps;I[J)I"⟩
abbrev cL_law : ByteArray := code
def yL_law : MethodName := ⟨RL, "law", "([I)Z"⟩
abbrev vwCl : List vw_C := [(RX0, TX0, 9), (RX1, TX1, 2), (RX2, TX2, 4), (RX3, TX3, 8)]
/-- the words of every method: all good ones of the tables -/
def zAW : List Cond := lw_tbl.filter goodWord
end
section
theorem dX0_init_0 : decode cX0_init 0 = .ok (.aload_n 0, 1) := by decide +kernel
theorem dX0_init_1 : decode cX0_init 1 = .ok (.invokespecial 3, 3) := by decide +kernel
theorem dX0_init_4 : decode cX0_init 4 = .ok (.aload_n 0, 1) := by decide +kernel
theorem dX0_init_5 : decode cX0_init 5 = .ok (.bipush 6, 2) := by decide +kernel
theorem dX0_init_7 : decode cX0_init 7 = .ok (.newarray .int, 2) := by decide +kernel
theorem dX0_init_9 : decode cX0_init 9 = .ok (.putfield 9, 3) := by decide +kernel
theorem dX0_init_12 : decode cX0_init 12 = .ok (.aload_n 0, 1) := by decide +kernel
theorem dX0_init_13 : decode cX0_init 13 = .ok (.bipush 6, 2) := by decide +kernel
theorem dX0_init_15 : decode cX0_init 15 = .ok (.newarray .int, 2) := by decide +kernel
theorem dX0_init_17 : decode cX0_init 17 = .ok (.putfield 15, 3) := by decide +kernel
theorem dX0_init_20 : decode cX0_init 20 = .ok (.aload_n 0, 1) := by decide +kernel
theorem dX0_init_21 : decode cX0_init 21 = .ok (.bipush 6, 2) := by decide +kernel
theorem dX0_init_23 : decode cX0_init 23 = .ok (.newarray .int, 2) := by decide +kernel
theorem dX0_init_25 : decode cX0_init 25 = .ok (.putfield 18, 3) := by decide +kernel
theorem dX0_init_28 : decode cX0_init 28 = .ok (.aload_n 0, 1) := by decide +kernel
theorem dX0_init_29 : decode cX0_init 29 = .ok (.bipush 6, 2) := by decide +kernel
theorem dX0_init_31 : decode cX0_init 31 = .ok (.newarray .int, 2) := by decide +kernel
theorem dX0_init_33 : decode cX0_init 33 = .ok (.putfield 21, 3) := by decide +kernel
theorem dX0_init_36 : decode cX0_init 36 = .ok (.aload_n 0, 1) := by decide +kernel
theorem dX0_init_37 : decode cX0_init 37 = .ok (.bipush 6, 2) := by decide +kernel
theorem dX0_init_39 : decode cX0_init 39 = .ok (.newarray .int, 2) := by decide +kernel
theorem dX0_init_41 : decode cX0_init 41 = .ok (.putfield 24, 3) := by decide +kernel
theorem dX0_init_44 : decode cX0_init 44 = .ok (.aload_n 0, 1) := by decide +kernel
theorem dX0_init_45 : decode cX0_init 45 = .ok (.bipush 6, 2) := by decide +kernel
theorem dX0_init_47 : decode cX0_init 47 = .ok (.newarray .int, 2) := by decide +kernel
theorem dX0_init_49 : decode cX0_init 49 = .ok (.putfield 27, 3) := by decide +kernel
theorem dX0_init_52 : decode cX0_init 52 = .ok (.aload_n 0, 1) := by decide +kernel
theorem dX0_init_53 : decode cX0_init 53 = .ok (.bipush 6, 2) := by decide +kernel
theorem dX0_init_55 : decode cX0_init 55 = .ok (.newarray .boolean, 2) := by decide +kernel
theorem dX0_init_57 : decode cX0_init 57 = .ok (.putfield 30, 3) := by decide +kernel
theorem dX0_init_60 : decode cX0_init 60 = .ok (.aload_n 0, 1) := by decide +kernel
theorem dX0_init_61 : decode cX0_init 61 = .ok (.bipush 6, 2) := by decide +kernel
theorem dX0_init_63 : decode cX0_init 63 = .ok (.newarray .boolean, 2) := by decide +kernel
theorem dX0_init_65 : decode cX0_init 65 = .ok (.putfield 34, 3) := by decide +kernel
theorem dX0_init_68 : decode cX0_init 68 = .ok (.return_, 1) := by decide +kernel
theorem dX0_enter_0 : decode cX0_enter 0 = .ok (.aload_n 0, 1) := by decide +kernel
theorem dX0_enter_1 : decode cX0_enter 1 = .ok (.getfield 37, 3) := by decide +kernel
theorem dX0_enter_4 : decode cX0_enter 4 = .ok (.istore_n 3, 1) := by decide +kernel
theorem dX0_enter_5 : decode cX0_enter 5 = .ok (.aload_n 0, 1) := by decide +kernel
theorem dX0_enter_6 : decode cX0_enter 6 = .ok (.getfield 9, 3) := by decide +kernel
theorem dX0_enter_9 : decode cX0_enter 9 = .ok (.iload_n 3, 1) := by decide +kernel
theorem dX0_enter_10 : decode cX0_enter 10 = .ok (.iload_n 1, 1) := by decide +kernel
theorem dX0_enter_11 : decode cX0_enter 11 = .ok (.iastore, 1) := by decide +kernel
theorem dX0_enter_12 : decode cX0_enter 12 = .ok (.aload_n 0, 1) := by decide +kernel
theorem dX0_enter_13 : decode cX0_enter 13 = .ok (.getfield 15, 3) := by decide +kernel
theorem dX0_enter_16 : decode cX0_enter 16 = .ok (.iload_n 3, 1) := by decide +kernel
theorem dX0_enter_17 : decode cX0_enter 17 = .ok (.iload_n 2, 1) := by decide +kernel
theorem dX0_enter_18 : decode cX0_enter 18 = .ok (.iastore, 1) := by decide +kernel
theorem dX0_enter_19 : decode cX0_enter 19 = .ok (.aload_n 0, 1) := by decide +kernel
theorem dX0_enter_20 : decode cX0_enter 20 = .ok (.iload_n 3, 1) := by decide +kernel
theorem dX0_enter_21 : decode cX0_enter 21 = .ok (.iconst 1, 1) := by decide +kernel
theorem dX0_enter_22 : decode cX0_enter 22 = .ok (.iadd, 1) := by decide +kernel
theorem dX0_enter_23 : decode cX0_enter 23 = .ok (.putfield 37, 3) := by decide +kernel
theorem dX0_enter_26 : decode cX0_enter 26 = .ok (.iload_n 3, 1) := by decide +kernel
theorem dX0_enter_27 : decode cX0_enter 27 = .ok (.ireturn, 1) := by decide +kernel
theorem dX0_takeOver_0 : decode cX0_takeOver 0 = .ok (.aload_n 0, 1) := by decide +kernel
theorem dX0_takeOver_1 : decode cX0_takeOver 1 = .ok (.aload_n 1, 1) := by decide +kernel
theorem dX0_takeOver_2 : decode cX0_takeOver 2 = .ok (.getfield 37, 3) := by decide +kernel
theorem dX0_takeOver_5 : decode cX0_takeOver 5 = .ok (.putfield 37, 3) := by decide +kernel
theorem dX0_takeOver_8 : decode cX0_takeOver 8 = .ok (.iconst 0, 1) := by decide +kernel
theorem dX0_takeOver_9 : decode cX0_takeOver 9 = .ok (.istore_n 2, 1) := by decide +kernel
theorem dX0_takeOver_10 : decode cX0_takeOver 10 = .ok (.iload_n 2, 1) := by decide +kernel
theorem dX0_takeOver_11 : decode cX0_takeOver 11 = .ok (.aload_n 0, 1) := by decide +kernel
theorem dX0_takeOver_12 : decode cX0_takeOver 12 = .ok (.getfield 37, 3) := by decide +kernel
theorem dX0_takeOver_15 : decode cX0_takeOver 15 = .ok (.if_icmp .ge 81, 3) := by decide +kernel
theorem dX0_takeOver_18 : decode cX0_takeOver 18 = .ok (.aload_n 0, 1) := by decide +kernel
theorem dX0_takeOver_19 : decode cX0_takeOver 19 = .ok (.getfield 9, 3) := by decide +kernel
theorem dX0_takeOver_22 : decode cX0_takeOver 22 = .ok (.iload_n 2, 1) := by decide +kernel
theorem dX0_takeOver_23 : decode cX0_takeOver 23 = .ok (.aload_n 1, 1) := by decide +kernel
theorem dX0_takeOver_24 : decode cX0_takeOver 24 = .ok (.getfield 9, 3) := by decide +kernel
theorem dX0_takeOver_27 : decode cX0_takeOver 27 = .ok (.iload_n 2, 1) := by decide +kernel
theorem dX0_takeOver_28 : decode cX0_takeOver 28 = .ok (.iaload, 1) := by decide +kernel
theorem dX0_takeOver_29 : decode cX0_takeOver 29 = .ok (.iastore, 1) := by decide +kernel
theorem dX0_takeOver_30 : decode cX0_takeOver 30 = .ok (.aload_n 0, 1) := by decide +kernel
theorem dX0_takeOver_31 : decode cX0_takeOver 31 = .ok (.getfield 15, 3) := by decide +kernel
theorem dX0_takeOver_34 : decode cX0_takeOver 34 = .ok (.iload_n 2, 1) := by decide +kernel
theorem dX0_takeOver_35 : decode cX0_takeOver 35 = .ok (.aload_n 1, 1) := by decide +kernel
theorem dX0_takeOver_36 : decode cX0_takeOver 36 = .ok (.getfield 15, 3) := by decide +kernel
theorem dX0_takeOver_39 : decode cX0_takeOver 39 = .ok (.iload_n 2, 1) := by decide +kernel
theorem dX0_takeOver_40 : decode cX0_takeOver 40 = .ok (.iaload, 1) := by decide +kernel
theorem dX0_takeOver_41 : decode cX0_takeOver 41 = .ok (.iastore, 1) := by decide +kernel
theorem dX0_takeOver_42 : decode cX0_takeOver 42 = .ok (.aload_n 0, 1) := by decide +kernel
theorem dX0_takeOver_43 : decode cX0_takeOver 43 = .ok (.getfield 18, 3) := by decide +kernel
theorem dX0_takeOver_46 : decode cX0_takeOver 46 = .ok (.iload_n 2, 1) := by decide +kernel
theorem dX0_takeOver_47 : decode cX0_takeOver 47 = .ok (.aload_n 1, 1) := by decide +kernel
theorem dX0_takeOver_48 : decode cX0_takeOver 48 = .ok (.getfield 18, 3) := by decide +kernel
theorem dX0_takeOver_51 : decode cX0_takeOver 51 = .ok (.iload_n 2, 1) := by decide +kernel
theorem dX0_takeOver_52 : decode cX0_takeOver 52 = .ok (.iaload, 1) := by decide +kernel
theorem dX0_takeOver_53 : decode cX0_takeOver 53 = .ok (.iastore, 1) := by decide +kernel
theorem dX0_takeOver_54 : decode cX0_takeOver 54 = .ok (.aload_n 0, 1) := by decide +kernel
theorem dX0_takeOver_55 : decode cX0_takeOver 55 = .ok (.getfield 21, 3) := by decide +kernel
theorem dX0_takeOver_58 : decode cX0_takeOver 58 = .ok (.iload_n 2, 1) := by decide +kernel
theorem dX0_takeOver_59 : decode cX0_takeOver 59 = .ok (.aload_n 1, 1) := by decide +kernel
theorem dX0_takeOver_60 : decode cX0_takeOver 60 = .ok (.getfield 21, 3) := by decide +kernel
theorem dX0_takeOver_63 : decode cX0_takeOver 63 = .ok (.iload_n 2, 1) := by decide +kernel
theorem dX0_takeOver_64 : decode cX0_takeOver 64 = .ok (.iaload, 1) := by decide +kernel
theorem dX0_takeOver_65 : decode cX0_takeOver 65 = .ok (.iastore, 1) := by decide +kernel
theorem dX0_takeOver_66 : decode cX0_takeOver 66 = .ok (.aload_n 0, 1) := by decide +kernel
theorem dX0_takeOver_67 : decode cX0_takeOver 67 = .ok (.getfield 24, 3) := by decide +kernel
theorem dX0_takeOver_70 : decode cX0_takeOver 70 = .ok (.iload_n 2, 1) := by decide +kernel
theorem dX0_takeOver_71 : decode cX0_takeOver 71 = .ok (.aload_n 1, 1) := by decide +kernel
theorem dX0_takeOver_72 : decode cX0_takeOver 72 = .ok (.getfield 24, 3) := by decide +kernel
theorem dX0_takeOver_75 : decode cX0_takeOver 75 = .ok (.iload_n 2, 1) := by decide +kernel
theorem dX0_takeOver_76 : decode cX0_takeOver 76 = .ok (.iaload, 1) := by decide +kernel
theorem dX0_takeOver_77 : decode cX0_takeOver 77 = .ok (.iastore, 1) := by decide +kernel
theorem dX0_takeOver_78 : decode cX0_takeOver 78 = .ok (.aload_n 0, 1) := by decide +kernel
theorem dX0_takeOver_79 : decode cX0_takeOver 79 = .ok (.getfield 27, 3) := by decide +kernel
theorem dX0_takeOver_82 : decode cX0_takeOver 82 = .ok (.iload_n 2, 1) := by decide +kernel
theorem dX0_takeOver_83 : decode cX0_takeOver 83 = .ok (.aload_n 1, 1) := by decide +kernel
theorem dX0_takeOver_84 : decode cX0_takeOver 84 = .ok (.getfield 27, 3) := by decide +kernel
theorem dX0_takeOver_87 : decode cX0_takeOver 87 = .ok (.iload_n 2, 1) := by decide +kernel
theorem dX0_takeOver_88 : decode cX0_takeOver 88 = .ok (.iaload, 1) := by decide +kernel
theorem dX0_takeOver_89 : decode cX0_takeOver 89 = .ok (.iastore, 1) := by decide +kernel
theorem dX0_takeOver_90 : decode cX0_takeOver 90 = .ok (.iinc 2 1, 3) := by decide +kernel
theorem dX0_takeOver_93 : decode cX0_takeOver 93 = .ok (.goto (-83), 3) := by decide +kernel
theorem dX0_takeOver_96 : decode cX0_takeOver 96 = .ok (.return_, 1) := by decide +kernel
theorem dX0_trouble_0 : decode cX0_trouble 0 = .ok (.aload_n 0, 1) := by decide +kernel
theorem dX0_trouble_1 : decode cX0_trouble 1 = .ok (.getfield 15, 3) := by decide +kernel
theorem dX0_trouble_4 : decode cX0_trouble 4 = .ok (.iload_n 1, 1) := by decide +kernel
theorem dX0_trouble_5 : decode cX0_trouble 5 = .ok (.iaload, 1) := by decide +kernel
theorem dX0_trouble_6 : decode cX0_trouble 6 = .ok (.istore_n 3, 1) := by decide +kernel
theorem dX0_trouble_7 : decode cX0_trouble 7 = .ok (.iload_n 3, 1) := by decide +kernel
theorem dX0_trouble_8 : decode cX0_trouble 8 = .ok (.iconst 1, 1) := by decide +kernel
theorem dX0_trouble_9 : decode cX0_trouble 9 = .ok (.if_icmp .ge 7, 3) := by decide +kernel
theorem dX0_trouble_12 : decode cX0_trouble 12 = .ok (.iload_n 2, 1) := by decide +kernel
theorem dX0_trouble_13 : decode cX0_trouble 13 = .ok (.goto 13, 3) := by decide +kernel
theorem dX0_trouble_16 : decode cX0_trouble 16 = .ok (.iload_n 2, 1) := by decide +kernel
theorem dX0_trouble_17 : decode cX0_trouble 17 = .ok (.aload_n 0, 1) := by decide +kernel
theorem dX0_trouble_18 : decode cX0_trouble 18 = .ok (.getfield 18, 3) := by decide +kernel
theorem dX0_trouble_21 : decode cX0_trouble 21 = .ok (.iload_n 1, 1) := by decide +kernel
theorem dX0_trouble_22 : decode cX0_trouble 22 = .ok (.iaload, 1) := by decide +kernel
theorem dX0_trouble_23 : decode cX0_trouble 23 = .ok (.iload_n 3, 1) := by decide +kernel
theorem dX0_trouble_24 : decode cX0_trouble 24 = .ok (.idiv, 1) := by decide +kernel
theorem dX0_trouble_25 : decode cX0_trouble 25 = .ok (.iadd, 1) := by decide +kernel
theorem dX0_trouble_26 : decode cX0_trouble 26 = .ok (.ireturn, 1) := by decide +kernel
theorem dX0_outcome_0 : decode cX0_outcome 0 = .ok (.aload_n 0, 1) := by decide +kernel
theorem dX0_outcome_1 : decode cX0_outcome 1 = .ok (.iload_n 1, 1) := by decide +kernel
theorem dX0_outcome_2 : decode cX0_outcome 2 = .ok (.iload_n 2, 1) := by decide +kernel
theorem dX0_outcome_3 : decode cX0_outcome 3 = .ok (.invokevirtual 41, 3) := by decide +kernel
theorem dX0_outcome_6 : decode cX0_outcome 6 = .ok (.aload_n 0, 1) := by decide +kernel
theorem dX0_outcome_7 : decode cX0_outcome 7 = .ok (.getfield 9, 3) := by decide +kernel
theorem dX0_outcome_10 : decode cX0_outcome 10 = .ok (.iload_n 1, 1) := by decide +kernel
theorem dX0_outcome_11 : decode cX0_outcome 11 = .ok (.iaload, 1) := by decide +kernel
theorem dX0_outcome_12 : decode cX0_outcome 12 = .ok (.if_icmp .gt 5, 3) := by decide +kernel
theorem dX0_outcome_15 : decode cX0_outcome 15 = .ok (.iconst 2, 1) := by decide +kernel
theorem dX0_outcome_16 : decode cX0_outcome 16 = .ok (.ireturn, 1) := by decide +kernel
theorem dX0_outcome_17 : decode cX0_outcome 17 = .ok (.iload_n 2, 1) := by decide +kernel
theorem dX0_outcome_18 : decode cX0_outcome 18 = .ok (.aload_n 0, 1) := by decide +kernel
theorem dX0_outcome_19 : decode cX0_outcome 19 = .ok (.getfield 9, 3) := by decide +kernel
theorem dX0_outcome_22 : decode cX0_outcome 22 = .ok (.iload_n 1, 1) := by decide +kernel
theorem dX0_outcome_23 : decode cX0_outcome 23 = .ok (.iaload, 1) := by decide +kernel
theorem dX0_outcome_24 : decode cX0_outcome 24 = .ok (.if_icmp .gt 7, 3) := by decide +kernel
theorem dX0_outcome_27 : decode cX0_outcome 27 = .ok (.iconst 1, 1) := by decide +kernel
theorem dX0_outcome_28 : decode cX0_outcome 28 = .ok (.goto 4, 3) := by decide +kernel
theorem dX0_outcome_31 : decode cX0_outcome 31 = .ok (.iconst 0, 1) := by decide +kernel
theorem dX0_outcome_32 : decode cX0_outcome 32 = .ok (.ireturn, 1) := by decide +kernel
theorem dX0_shoot_0 : decode cX0_shoot 0 = .ok (.aload_n 0, 1) := by decide +kernel
theorem dX0_shoot_1 : decode cX0_shoot 1 = .ok (.iload_n 1, 1) := by decide +kernel
theorem dX0_shoot_2 : decode cX0_shoot 2 = .ok (.iload_n 2, 1) := by decide +kernel
theorem dX0_shoot_3 : decode cX0_shoot 3 = .ok (.invokevirtual 45, 3) := by decide +kernel
theorem dX0_shoot_6 : decode cX0_shoot 6 = .ok (.istore_n 3, 1) := by decide +kernel
theorem dX0_shoot_7 : decode cX0_shoot 7 = .ok (.aload_n 0, 1) := by decide +kernel
theorem dX0_shoot_8 : decode cX0_shoot 8 = .ok (.getfield 21, 3) := by decide +kernel
theorem dX0_shoot_11 : decode cX0_shoot 11 = .ok (.iload_n 1, 1) := by decide +kernel
theorem dX0_shoot_12 : decode cX0_shoot 12 = .ok (.dup2, 1) := by decide +kernel
theorem dX0_shoot_13 : decode cX0_shoot 13 = .ok (.iaload, 1) := by decide +kernel
theorem dX0_shoot_14 : decode cX0_shoot 14 = .ok (.iload_n 3, 1) := by decide +kernel
theorem dX0_shoot_15 : decode cX0_shoot 15 = .ok (.iadd, 1) := by decide +kernel
theorem dX0_shoot_16 : decode cX0_shoot 16 = .ok (.iastore, 1) := by decide +kernel
theorem dX0_shoot_17 : decode cX0_shoot 17 = .ok (.aload_n 0, 1) := by decide +kernel
theorem dX0_shoot_18 : decode cX0_shoot 18 = .ok (.getfield 18, 3) := by decide +kernel
theorem dX0_shoot_21 : decode cX0_shoot 21 = .ok (.iload_n 1, 1) := by decide +kernel
theorem dX0_shoot_22 : decode cX0_shoot 22 = .ok (.dup2, 1) := by decide +kernel
theorem dX0_shoot_23 : decode cX0_shoot 23 = .ok (.iaload, 1) := by decide +kernel
theorem dX0_shoot_24 : decode cX0_shoot 24 = .ok (.iload_n 3, 1) := by decide +kernel
theorem dX0_shoot_25 : decode cX0_shoot 25 = .ok (.iconst 2, 1) := by decide +kernel
theorem dX0_shoot_26 : decode cX0_shoot 26 = .ok (.if_icmp .ne 7, 3) := by decide +kernel
theorem dX0_shoot_29 : decode cX0_shoot 29 = .ok (.iconst 1, 1) := by decide +kernel
theorem dX0_shoot_30 : decode cX0_shoot 30 = .ok (.goto 4, 3) := by decide +kernel
theorem dX0_shoot_33 : decode cX0_shoot 33 = .ok (.iconst 2, 1) := by decide +kernel
theorem dX0_shoot_34 : decode cX0_shoot 34 = .ok (.iadd, 1) := by decide +kernel
theorem dX0_shoot_35 : decode cX0_shoot 35 = .ok (.iastore, 1) := by decide +kernel
theorem dX0_shoot_36 : decode cX0_shoot 36 = .ok (.iload_n 3, 1) := by decide +kernel
theorem dX0_shoot_37 : decode cX0_shoot 37 = .ok (.iconst 2, 1) := by decide +kernel
theorem dX0_shoot_38 : decode cX0_shoot 38 = .ok (.if_icmp .ne 13, 3) := by decide +kernel
theorem dX0_shoot_41 : decode cX0_shoot 41 = .ok (.aload_n 0, 1) := by decide +kernel
theorem dX0_shoot_42 : decode cX0_shoot 42 = .ok (.getfield 24, 3) := by decide +kernel
theorem dX0_shoot_45 : decode cX0_shoot 45 = .ok (.iload_n 1, 1) := by decide +kernel
theorem dX0_shoot_46 : decode cX0_shoot 46 = .ok (.dup2, 1) := by decide +kernel
theorem dX0_shoot_47 : decode cX0_shoot 47 = .ok (.iaload, 1) := by decide +kernel
theorem dX0_shoot_48 : decode cX0_shoot 48 = .ok (.iconst 1, 1) := by decide +kernel
theorem dX0_shoot_49 : decode cX0_shoot 49 = .ok (.iadd, 1) := by decide +kernel
theorem dX0_shoot_50 : decode cX0_shoot 50 = .ok (.iastore, 1) := by decide +kernel
theorem dX0_shoot_51 : decode cX0_shoot 51 = .ok (.iload_n 3, 1) := by decide +kernel
theorem dX0_shoot_52 : decode cX0_shoot 52 = .ok (.ifCond .ne 13, 3) := by decide +kernel
theorem dX0_shoot_55 : decode cX0_shoot 55 = .ok (.aload_n 0, 1) := by decide +kernel
theorem dX0_shoot_56 : decode cX0_shoot 56 = .ok (.getfield 27, 3) := by decide +kernel
theorem dX0_shoot_59 : decode cX0_shoot 59 = .ok (.iload_n 1, 1) := by decide +kernel
theorem dX0_shoot_60 : decode cX0_shoot 60 = .ok (.dup2, 1) := by decide +kernel
theorem dX0_shoot_61 : decode cX0_shoot 61 = .ok (.iaload, 1) := by decide +kernel
theorem dX0_shoot_62 : decode cX0_shoot 62 = .ok (.iconst 1, 1) := by decide +kernel
theorem dX0_shoot_63 : decode cX0_shoot 63 = .ok (.iadd, 1) := by decide +kernel
theorem dX0_shoot_64 : decode cX0_shoot 64 = .ok (.iastore, 1) := by decide +kernel
theorem dX0_shoot_65 : decode cX0_shoot 65 = .ok (.return_, 1) := by decide +kernel
theorem dX0_playAlone_0 : decode cX0_playAlone 0 = .ok (.iconst 0, 1) := by decide +kernel
theorem dX0_playAlone_1 : decode cX0_playAlone 1 = .ok (.istore 5, 2) := by decide +kernel
theorem dX0_playAlone_3 : decode cX0_playAlone 3 = .ok (.iload 5, 2) := by decide +kernel
theorem dX0_playAlone_5 : decode cX0_playAlone 5 = .ok (.iload 4, 2) := by decide +kernel
theorem dX0_playAlone_7 : decode cX0_playAlone 7 = .ok (.if_icmp .ge 54, 3) := by decide +kernel
theorem dX0_playAlone_10 : decode cX0_playAlone 10 = .ok (.iload_n 3, 1) := by decide +kernel
theorem dX0_playAlone_11 : decode cX0_playAlone 11 = .ok (.iload 5, 2) := by decide +kernel
theorem dX0_playAlone_13 : decode cX0_playAlone 13 = .ok (.iadd, 1) := by decide +kernel
theorem dX0_playAlone_14 : decode cX0_playAlone 14 = .ok (.istore 6, 2) := by decide +kernel
theorem dX0_playAlone_16 : decode cX0_playAlone 16 = .ok (.aload_n 0, 1) := by decide +kernel
theorem dX0_playAlone_17 : decode cX0_playAlone 17 = .ok (.iload_n 2, 1) := by decide +kernel
theorem dX0_playAlone_18 : decode cX0_playAlone 18 = .ok (.aload_n 1, 1) := by decide +kernel
theorem dX0_playAlone_19 : decode cX0_playAlone 19 = .ok (.iload 6, 2) := by decide +kernel
theorem dX0_playAlone_21 : decode cX0_playAlone 21 = .ok (.iload_n 2, 1) := by decide +kernel
theorem dX0_playAlone_22 : decode cX0_playAlone 22 = .ok (.invokevirtual 48, 3) := by decide +kernel
theorem dX0_playAlone_25 : decode cX0_playAlone 25 = .ok (.invokevirtual 53, 3) := by decide +kernel
theorem dX0_playAlone_28 : decode cX0_playAlone 28 = .ok (.iload 6, 2) := by decide +kernel
theorem dX0_playAlone_30 : decode cX0_playAlone 30 = .ok (.invokestatic 57, 3) := by decide +kernel
theorem dX0_playAlone_33 : decode cX0_playAlone 33 = .ok (.iconst 4, 1) := by decide +kernel
theorem dX0_playAlone_34 : decode cX0_playAlone 34 = .ok (.if_icmp .ne 21, 3) := by decide +kernel
theorem dX0_playAlone_37 : decode cX0_playAlone 37 = .ok (.aload_n 0, 1) := by decide +kernel
theorem dX0_playAlone_38 : decode cX0_playAlone 38 = .ok (.getfield 18, 3) := by decide +kernel
theorem dX0_playAlone_41 : decode cX0_playAlone 41 = .ok (.iload_n 2, 1) := by decide +kernel
theorem dX0_playAlone_42 : decode cX0_playAlone 42 = .ok (.iconst 0, 1) := by decide +kernel
theorem dX0_playAlone_43 : decode cX0_playAlone 43 = .ok (.aload_n 0, 1) := by decide +kernel
theorem dX0_playAlone_44 : decode cX0_playAlone 44 = .ok (.getfield 18, 3) := by decide +kernel
theorem dX0_playAlone_47 : decode cX0_playAlone 47 = .ok (.iload_n 2, 1) := by decide +kernel
theorem dX0_playAlone_48 : decode cX0_playAlone 48 = .ok (.iaload, 1) := by decide +kernel
theorem dX0_playAlone_49 : decode cX0_playAlone 49 = .ok (.iconst 3, 1) := by decide +kernel
theorem dX0_playAlone_50 : decode cX0_playAlone 50 = .ok (.isub, 1) := by decide +kernel
theorem dX0_playAlone_51 : decode cX0_playAlone 51 = .ok (.invokestatic 61, 3) := by decide +kernel
theorem dX0_playAlone_54 : decode cX0_playAlone 54 = .ok (.iastore, 1) := by decide +kernel
theorem dX0_playAlone_55 : decode cX0_playAlone 55 = .ok (.iinc 5 1, 3) := by decide +kernel
theorem dX0_playAlone_58 : decode cX0_playAlone 58 = .ok (.goto (-55), 3) := by decide +kernel
theorem dX0_playAlone_61 : decode cX0_playAlone 61 = .ok (.return_, 1) := by decide +kernel
theorem dX0_play_0 : decode cX0_play 0 = .ok (.iconst 0, 1) := by decide +kernel
theorem dX0_play_1 : decode cX0_play 1 = .ok (.istore 4, 2) := by decide +kernel
theorem dX0_play_3 : decode cX0_play 3 = .ok (.iconst 0, 1) := by decide +kernel
theorem dX0_play_4 : decode cX0_play 4 = .ok (.istore 5, 2) := by decide +kernel
theorem dX0_play_6 : decode cX0_play 6 = .ok (.iload 5, 2) := by decide +kernel
theorem dX0_play_8 : decode cX0_play 8 = .ok (.aload_n 0, 1) := by decide +kernel
theorem dX0_play_9 : decode cX0_play 9 = .ok (.getfield 37, 3) := by decide +kernel
theorem dX0_play_12 : decode cX0_play 12 = .ok (.if_icmp .ge 42, 3) := by decide +kernel
theorem dX0_play_15 : decode cX0_play 15 = .ok (.aload_n 0, 1) := by decide +kernel
theorem dX0_play_16 : decode cX0_play 16 = .ok (.getfield 27, 3) := by decide +kernel
theorem dX0_play_19 : decode cX0_play 19 = .ok (.iload 5, 2) := by decide +kernel
theorem dX0_play_21 : decode cX0_play 21 = .ok (.iaload, 1) := by decide +kernel
theorem dX0_play_22 : decode cX0_play 22 = .ok (.istore 6, 2) := by decide +kernel
theorem dX0_play_24 : decode cX0_play 24 = .ok (.aload_n 0, 1) := by decide +kernel
theorem dX0_play_25 : decode cX0_play 25 = .ok (.aload_n 1, 1) := by decide +kernel
theorem dX0_play_26 : decode cX0_play 26 = .ok (.iload 5, 2) := by decide +kernel
theorem dX0_play_28 : decode cX0_play 28 = .ok (.iload_n 2, 1) := by decide +kernel
theorem dX0_play_29 : decode cX0_play 29 = .ok (.iload_n 3, 1) := by decide +kernel
theorem dX0_play_30 : decode cX0_play 30 = .ok (.invokevirtual 66, 3) := by decide +kernel
theorem dX0_play_33 : decode cX0_play 33 = .ok (.iload 4, 2) := by decide +kernel
theorem dX0_play_35 : decode cX0_play 35 = .ok (.aload_n 0, 1) := by decide +kernel
theorem dX0_play_36 : decode cX0_play 36 = .ok (.getfield 27, 3) := by decide +kernel
theorem dX0_play_39 : decode cX0_play 39 = .ok (.iload 5, 2) := by decide +kernel
theorem dX0_play_41 : decode cX0_play 41 = .ok (.iaload, 1) := by decide +kernel
theorem dX0_play_42 : decode cX0_play 42 = .ok (.iload 6, 2) := by decide +kernel
theorem dX0_play_44 : decode cX0_play 44 = .ok (.isub, 1) := by decide +kernel
theorem dX0_play_45 : decode cX0_play 45 = .ok (.iadd, 1) := by decide +kernel
theorem dX0_play_46 : decode cX0_play 46 = .ok (.istore 4, 2) := by decide +kernel
theorem dX0_play_48 : decode cX0_play 48 = .ok (.iinc 5 1, 3) := by decide +kernel
theorem dX0_play_51 : decode cX0_play 51 = .ok (.goto (-45), 3) := by decide +kernel
theorem dX0_play_54 : decode cX0_play 54 = .ok (.iload 4, 2) := by decide +kernel
theorem dX0_play_56 : decode cX0_play 56 = .ok (.ireturn, 1) := by decide +kernel
theorem dX0_leading_0 : decode cX0_leading 0 = .ok (.iconst (-1), 1) := by decide +kernel
theorem dX0_leading_1 : decode cX0_leading 1 = .ok (.istore_n 1, 1) := by decide +kernel
theorem dX0_leading_2 : decode cX0_leading 2 = .ok (.iconst 0, 1) := by decide +kernel
theorem dX0_leading_3 : decode cX0_leading 3 = .ok (.istore_n 2, 1) := by decide +kernel
theorem dX0_leading_4 : decode cX0_leading 4 = .ok (.iload_n 2, 1) := by decide +kernel
theorem dX0_leading_5 : decode cX0_leading 5 = .ok (.aload_n 0, 1) := by decide +kernel
theorem dX0_leading_6 : decode cX0_leading 6 = .ok (.getfield 37, 3) := by decide +kernel
theorem dX0_leading_9 : decode cX0_leading 9 = .ok (.if_icmp .ge 31, 3) := by decide +kernel
theorem dX0_leading_12 : decode cX0_leading 12 = .ok (.iload_n 1, 1) := by decide +kernel
theorem dX0_leading_13 : decode cX0_leading 13 = .ok (.iconst (-1), 1) := by decide +kernel
theorem dX0_leading_14 : decode cX0_leading 14 = .ok (.if_icmp .eq 18, 3) := by decide +kernel
theorem dX0_leading_17 : decode cX0_leading 17 = .ok (.aload_n 0, 1) := by decide +kernel
theorem dX0_leading_18 : decode cX0_leading 18 = .ok (.getfield 21, 3) := by decide +kernel
theorem dX0_leading_21 : decode cX0_leading 21 = .ok (.iload_n 2, 1) := by decide +kernel
theorem dX0_leading_22 : decode cX0_leading 22 = .ok (.iaload, 1) := by decide +kernel
theorem dX0_leading_23 : decode cX0_leading 23 = .ok (.aload_n 0, 1) := by decide +kernel
theorem dX0_leading_24 : decode cX0_leading 24 = .ok (.getfield 21, 3) := by decide +kernel
theorem dX0_leading_27 : decode cX0_leading 27 = .ok (.iload_n 1, 1) := by decide +kernel
theorem dX0_leading_28 : decode cX0_leading 28 = .ok (.iaload, 1) := by decide +kernel
theorem dX0_leading_29 : decode cX0_leading 29 = .ok (.if_icmp .le 5, 3) := by decide +kernel
theorem dX0_leading_32 : decode cX0_leading 32 = .ok (.iload_n 2, 1) := by decide +kernel
theorem dX0_leading_33 : decode cX0_leading 33 = .ok (.istore_n 1, 1) := by decide +kernel
theorem dX0_leading_34 : decode cX0_leading 34 = .ok (.iinc 2 1, 3) := by decide +kernel
theorem dX0_leading_37 : decode cX0_leading 37 = .ok (.goto (-33), 3) := by decide +kernel
theorem dX0_leading_40 : decode cX0_leading 40 = .ok (.iload_n 1, 1) := by decide +kernel
theorem dX0_leading_41 : decode cX0_leading 41 = .ok (.ireturn, 1) := by decide +kernel
theorem dX0_countTied_0 : decode cX0_countTied 0 = .ok (.aload_n 0, 1) := by decide +kernel
theorem dX0_countTied_1 : decode cX0_countTied 1 = .ok (.invokevirtual 70, 3) := by decide +kernel
theorem dX0_countTied_4 : decode cX0_countTied 4 = .ok (.istore_n 1, 1) := by decide +kernel
theorem dX0_countTied_5 : decode cX0_countTied 5 = .ok (.iconst 0, 1) := by decide +kernel
theorem dX0_countTied_6 : decode cX0_countTied 6 = .ok (.istore_n 2, 1) := by decide +kernel
theorem dX0_countTied_7 : decode cX0_countTied 7 = .ok (.iconst 0, 1) := by decide +kernel
theorem dX0_countTied_8 : decode cX0_countTied 8 = .ok (.istore_n 3, 1) := by decide +kernel
theorem dX0_countTied_9 : decode cX0_countTied 9 = .ok (.iload_n 3, 1) := by decide +kernel
theorem dX0_countTied_10 : decode cX0_countTied 10 = .ok (.aload_n 0, 1) := by decide +kernel
theorem dX0_countTied_11 : decode cX0_countTied 11 = .ok (.getfield 37, 3) := by decide +kernel
theorem dX0_countTied_14 : decode cX0_countTied 14 = .ok (.if_icmp .ge 32, 3) := by decide +kernel
theorem dX0_countTied_17 : decode cX0_countTied 17 = .ok (.iload_n 1, 1) := by decide +kernel
theorem dX0_countTied_18 : decode cX0_countTied 18 = .ok (.iconst (-1), 1) := by decide +kernel
theorem dX0_countTied_19 : decode cX0_countTied 19 = .ok (.if_icmp .eq 21, 3) := by decide +kernel
theorem dX0_countTied_22 : decode cX0_countTied 22 = .ok (.aload_n 0, 1) := by decide +kernel
theorem dX0_countTied_23 : decode cX0_countTied 23 = .ok (.getfield 21, 3) := by decide +kernel
theorem dX0_countTied_26 : decode cX0_countTied 26 = .ok (.iload_n 3, 1) := by decide +kernel
theorem dX0_countTied_27 : decode cX0_countTied 27 = .ok (.iaload, 1) := by decide +kernel
theorem dX0_countTied_28 : decode cX0_countTied 28 = .ok (.aload_n 0, 1) := by decide +kernel
theorem dX0_countTied_29 : decode cX0_countTied 29 = .ok (.getfield 21, 3) := by decide +kernel
theorem dX0_countTied_32 : decode cX0_countTied 32 = .ok (.iload_n 1, 1) := by decide +kernel
theorem dX0_countTied_33 : decode cX0_countTied 33 = .ok (.iaload, 1) := by decide +kernel
theorem dX0_countTied_34 : decode cX0_countTied 34 = .ok (.if_icmp .ne 6, 3) := by decide +kernel
theorem dX0_countTied_37 : decode cX0_countTied 37 = .ok (.iinc 2 1, 3) := by decide +kernel
theorem dX0_countTied_40 : decode cX0_countTied 40 = .ok (.iinc 3 1, 3) := by decide +kernel
theorem dX0_countTied_43 : decode cX0_countTied 43 = .ok (.goto (-34), 3) := by decide +kernel
theorem dX0_countTied_46 : decode cX0_countTied 46 = .ok (.iload_n 2, 1) := by decide +kernel
theorem dX0_countTied_47 : decode cX0_countTied 47 = .ok (.ireturn, 1) := by decide +kernel
theorem dX0_countAbove_0 : decode cX0_countAbove 0 = .ok (.iconst 0, 1) := by decide +kernel
theorem dX0_countAbove_1 : decode cX0_countAbove 1 = .ok (.istore_n 2, 1) := by decide +kernel
theorem dX0_countAbove_2 : decode cX0_countAbove 2 = .ok (.iconst 0, 1) := by decide +kernel
theorem dX0_countAbove_3 : decode cX0_countAbove 3 = .ok (.istore_n 3, 1) := by decide +kernel
theorem dX0_countAbove_4 : decode cX0_countAbove 4 = .ok (.iload_n 3, 1) := by decide +kernel
theorem dX0_countAbove_5 : decode cX0_countAbove 5 = .ok (.aload_n 0, 1) := by decide +kernel
theorem dX0_countAbove_6 : decode cX0_countAbove 6 = .ok (.getfield 37, 3) := by decide +kernel
theorem dX0_countAbove_9 : decode cX0_countAbove 9 = .ok (.if_icmp .ge 22, 3) := by decide +kernel
theorem dX0_countAbove_12 : decode cX0_countAbove 12 = .ok (.aload_n 0, 1) := by decide +kernel
theorem dX0_countAbove_13 : decode cX0_countAbove 13 = .ok (.getfield 21, 3) := by decide +kernel
theorem dX0_countAbove_16 : decode cX0_countAbove 16 = .ok (.iload_n 3, 1) := by decide +kernel
theorem dX0_countAbove_17 : decode cX0_countAbove 17 = .ok (.iaload, 1) := by decide +kernel
theorem dX0_countAbove_18 : decode cX0_countAbove 18 = .ok (.iload_n 1, 1) := by decide +kernel
theorem dX0_countAbove_19 : decode cX0_countAbove 19 = .ok (.if_icmp .le 6, 3) := by decide +kernel
theorem dX0_countAbove_22 : decode cX0_countAbove 22 = .ok (.iinc 2 1, 3) := by decide +kernel
theorem dX0_countAbove_25 : decode cX0_countAbove 25 = .ok (.iinc 3 1, 3) := by decide +kernel
theorem dX0_countAbove_28 : decode cX0_countAbove 28 = .ok (.goto (-24), 3) := by decide +kernel
theorem dX0_countAbove_31 : decode cX0_countAbove 31 = .ok (.iload_n 2, 1) := by decide +kernel
theorem dX0_countAbove_32 : decode cX0_countAbove 32 = .ok (.ireturn, 1) := by decide +kernel
theorem dX0_totalScore_0 : decode cX0_totalScore 0 = .ok (.iconst 0, 1) := by decide +kernel
theorem dX0_totalScore_1 : decode cX0_totalScore 1 = .ok (.istore_n 1, 1) := by decide +kernel
theorem dX0_totalScore_2 : decode cX0_totalScore 2 = .ok (.iconst 0, 1) := by decide +kernel
theorem dX0_totalScore_3 : decode cX0_totalScore 3 = .ok (.istore_n 2, 1) := by decide +kernel
theorem dX0_totalScore_4 : decode cX0_totalScore 4 = .ok (.iload_n 2, 1) := by decide +kernel
theorem dX0_totalScore_5 : decode cX0_totalScore 5 = .ok (.aload_n 0, 1) := by decide +kernel
theorem dX0_totalScore_6 : decode cX0_totalScore 6 = .ok (.getfield 37, 3) := by decide +kernel
theorem dX0_totalScore_9 : decode cX0_totalScore 9 = .ok (.if_icmp .ge 18, 3) := by decide +kernel
theorem dX0_totalScore_12 : decode cX0_totalScore 12 = .ok (.iload_n 1, 1) := by decide +kernel
theorem dX0_totalScore_13 : decode cX0_totalScore 13 = .ok (.aload_n 0, 1) := by decide +kernel
theorem dX0_totalScore_14 : decode cX0_totalScore 14 = .ok (.getfield 21, 3) := by decide +kernel
theorem dX0_totalScore_17 : decode cX0_totalScore 17 = .ok (.iload_n 2, 1) := by decide +kernel
theorem dX0_totalScore_18 : decode cX0_totalScore 18 = .ok (.iaload, 1) := by decide +kernel
theorem dX0_totalScore_19 : decode cX0_totalScore 19 = .ok (.iadd, 1) := by decide +kernel
theorem dX0_totalScore_20 : decode cX0_totalScore 20 = .ok (.istore_n 1, 1) := by decide +kernel
theorem dX0_totalScore_21 : decode cX0_totalScore 21 = .ok (.iinc 2 1, 3) := by decide +kernel
theorem dX0_totalScore_24 : decode cX0_totalScore 24 = .ok (.goto (-20), 3) := by decide +kernel
theorem dX0_totalScore_27 : decode cX0_totalScore 27 = .ok (.iload_n 1, 1) := by decide +kernel
theorem dX0_totalScore_28 : decode cX0_totalScore 28 = .ok (.ireturn, 1) := by decide +kernel
theorem dX0_settleTie_0 : decode cX0_settleTie 0 = .ok (.aload_n 0, 1) := by decide +kernel
theorem dX0_settleTie_1 : decode cX0_settleTie 1 = .ok (.invokevirtual 70, 3) := by decide +kernel
theorem dX0_settleTie_4 : decode cX0_settleTie 4 = .ok (.istore_n 1, 1) := by decide +kernel
theorem dX0_settleTie_5 : decode cX0_settleTie 5 = .ok (.iload_n 1, 1) := by decide +kernel
theorem dX0_settleTie_6 : decode cX0_settleTie 6 = .ok (.iconst (-1), 1) := by decide +kernel
theorem dX0_settleTie_7 : decode cX0_settleTie 7 = .ok (.if_icmp .ne 5, 3) := by decide +kernel
theorem dX0_settleTie_10 : decode cX0_settleTie 10 = .ok (.iconst (-1), 1) := by decide +kernel
theorem dX0_settleTie_11 : decode cX0_settleTie 11 = .ok (.ireturn, 1) := by decide +kernel
theorem dX0_settleTie_12 : decode cX0_settleTie 12 = .ok (.iconst 0, 1) := by decide +kernel
theorem dX0_settleTie_13 : decode cX0_settleTie 13 = .ok (.istore_n 2, 1) := by decide +kernel
theorem dX0_settleTie_14 : decode cX0_settleTie 14 = .ok (.iload_n 2, 1) := by decide +kernel
theorem dX0_settleTie_15 : decode cX0_settleTie 15 = .ok (.aload_n 0, 1) := by decide +kernel
theorem dX0_settleTie_16 : decode cX0_settleTie 16 = .ok (.getfield 37, 3) := by decide +kernel
theorem dX0_settleTie_19 : decode cX0_settleTie 19 = .ok (.if_icmp .ge 35, 3) := by decide +kernel
theorem dX0_settleTie_22 : decode cX0_settleTie 22 = .ok (.aload_n 0, 1) := by decide +kernel
theorem dX0_settleTie_23 : decode cX0_settleTie 23 = .ok (.getfield 30, 3) := by decide +kernel
theorem dX0_settleTie_26 : decode cX0_settleTie 26 = .ok (.iload_n 2, 1) := by decide +kernel
theorem dX0_settleTie_27 : decode cX0_settleTie 27 = .ok (.aload_n 0, 1) := by decide +kernel
theorem dX0_settleTie_28 : decode cX0_settleTie 28 = .ok (.getfield 21, 3) := by decide +kernel
theorem dX0_settleTie_31 : decode cX0_settleTie 31 = .ok (.iload_n 2, 1) := by decide +kernel
theorem dX0_settleTie_32 : decode cX0_settleTie 32 = .ok (.iaload, 1) := by decide +kernel
theorem dX0_settleTie_33 : decode cX0_settleTie 33 = .ok (.aload_n 0, 1) := by decide +kernel
theorem dX0_settleTie_34 : decode cX0_settleTie 34 = .ok (.getfield 21, 3) := by decide +kernel
theorem dX0_settleTie_37 : decode cX0_settleTie 37 = .ok (.iload_n 1, 1) := by decide +kernel
theorem dX0_settleTie_38 : decode cX0_settleTie 38 = .ok (.iaload, 1) := by decide +kernel
theorem dX0_settleTie_39 : decode cX0_settleTie 39 = .ok (.if_icmp .ne 7, 3) := by decide +kernel
theorem dX0_settleTie_42 : decode cX0_settleTie 42 = .ok (.iconst 1, 1) := by decide +kernel
theorem dX0_settleTie_43 : decode cX0_settleTie 43 = .ok (.goto 4, 3) := by decide +kernel
theorem dX0_settleTie_46 : decode cX0_settleTie 46 = .ok (.iconst 0, 1) := by decide +kernel
theorem dX0_settleTie_47 : decode cX0_settleTie 47 = .ok (.bastore, 1) := by decide +kernel
theorem dX0_settleTie_48 : decode cX0_settleTie 48 = .ok (.iinc 2 1, 3) := by decide +kernel
theorem dX0_settleTie_51 : decode cX0_settleTie 51 = .ok (.goto (-37), 3) := by decide +kernel
theorem dX0_settleTie_54 : decode cX0_settleTie 54 = .ok (.iconst 1, 1) := by decide +kernel
theorem dX0_settleTie_55 : decode cX0_settleTie 55 = .ok (.istore_n 2, 1) := by decide +kernel
theorem dX0_settleTie_56 : decode cX0_settleTie 56 = .ok (.iload_n 2, 1) := by decide +kernel
theorem dX0_settleTie_57 : decode cX0_settleTie 57 = .ok (.bipush 9, 2) := by decide +kernel
theorem dX0_settleTie_59 : decode cX0_settleTie 59 = .ok (.if_icmp .gt 25, 3) := by decide +kernel
theorem dX0_settleTie_62 : decode cX0_settleTie 62 = .ok (.aload_n 0, 1) := by decide +kernel
theorem dX0_settleTie_63 : decode cX0_settleTie 63 = .ok (.invokevirtual 74, 3) := by decide +kernel
theorem dX0_settleTie_66 : decode cX0_settleTie 66 = .ok (.iconst 1, 1) := by decide +kernel
theorem dX0_settleTie_67 : decode cX0_settleTie 67 = .ok (.if_icmp .le 17, 3) := by decide +kernel
theorem dX0_settleTie_70 : decode cX0_settleTie 70 = .ok (.aload_n 0, 1) := by decide +kernel
theorem dX0_settleTie_71 : decode cX0_settleTie 71 = .ok (.bipush 6, 2) := by decide +kernel
theorem dX0_settleTie_73 : decode cX0_settleTie 73 = .ok (.iload_n 2, 1) := by decide +kernel
theorem dX0_settleTie_74 : decode cX0_settleTie 74 = .ok (.imul, 1) := by decide +kernel
theorem dX0_settleTie_75 : decode cX0_settleTie 75 = .ok (.invokevirtual 77, 3) := by decide +kernel
theorem dX0_settleTie_78 : decode cX0_settleTie 78 = .ok (.iinc 2 1, 3) := by decide +kernel
theorem dX0_settleTie_81 : decode cX0_settleTie 81 = .ok (.goto (-25), 3) := by decide +kernel
theorem dX0_settleTie_84 : decode cX0_settleTie 84 = .ok (.aload_n 0, 1) := by decide +kernel
theorem dX0_settleTie_85 : decode cX0_settleTie 85 = .ok (.invokevirtual 81, 3) := by decide +kernel
theorem dX0_settleTie_88 : decode cX0_settleTie 88 = .ok (.istore_n 2, 1) := by decide +kernel
theorem dX0_settleTie_89 : decode cX0_settleTie 89 = .ok (.iload_n 2, 1) := by decide +kernel
theorem dX0_settleTie_90 : decode cX0_settleTie 90 = .ok (.iconst (-1), 1) := by decide +kernel
theorem dX0_settleTie_91 : decode cX0_settleTie 91 = .ok (.if_icmp .eq 13, 3) := by decide +kernel
theorem dX0_settleTie_94 : decode cX0_settleTie 94 = .ok (.aload_n 0, 1) := by decide +kernel
theorem dX0_settleTie_95 : decode cX0_settleTie 95 = .ok (.getfield 21, 3) := by decide +kernel
theorem dX0_settleTie_98 : decode cX0_settleTie 98 = .ok (.iload_n 2, 1) := by decide +kernel
theorem dX0_settleTie_99 : decode cX0_settleTie 99 = .ok (.dup2, 1) := by decide +kernel
theorem dX0_settleTie_100 : decode cX0_settleTie 100 = .ok (.iaload, 1) := by decide +kernel
theorem dX0_settleTie_101 : decode cX0_settleTie 101 = .ok (.iconst 1, 1) := by decide +kernel
theorem dX0_settleTie_102 : decode cX0_settleTie 102 = .ok (.iadd, 1) := by decide +kernel
theorem dX0_settleTie_103 : decode cX0_settleTie 103 = .ok (.iastore, 1) := by decide +kernel
theorem dX0_settleTie_104 : decode cX0_settleTie 104 = .ok (.iload_n 2, 1) := by decide +kernel
theorem dX0_settleTie_105 : decode cX0_settleTie 105 = .ok (.ireturn, 1) := by decide +kernel
theorem dX0_shootRound_0 : decode cX0_shootRound 0 = .ok (.iconst 0, 1) := by decide +kernel
theorem dX0_shootRound_1 : decode cX0_shootRound 1 = .ok (.istore_n 2, 1) := by decide +kernel
theorem dX0_shootRound_2 : decode cX0_shootRound 2 = .ok (.iconst 0, 1) := by decide +kernel
theorem dX0_shootRound_3 : decode cX0_shootRound 3 = .ok (.istore_n 3, 1) := by decide +kernel
theorem dX0_shootRound_4 : decode cX0_shootRound 4 = .ok (.iload_n 3, 1) := by decide +kernel
theorem dX0_shootRound_5 : decode cX0_shootRound 5 = .ok (.aload_n 0, 1) := by decide +kernel
theorem dX0_shootRound_6 : decode cX0_shootRound 6 = .ok (.getfield 37, 3) := by decide +kernel
theorem dX0_shootRound_9 : decode cX0_shootRound 9 = .ok (.if_icmp .ge 82, 3) := by decide +kernel
theorem dX0_shootRound_12 : decode cX0_shootRound 12 = .ok (.aload_n 0, 1) := by decide +kernel
theorem dX0_shootRound_13 : decode cX0_shootRound 13 = .ok (.getfield 34, 3) := by decide +kernel
theorem dX0_shootRound_16 : decode cX0_shootRound 16 = .ok (.iload_n 3, 1) := by decide +kernel
theorem dX0_shootRound_17 : decode cX0_shootRound 17 = .ok (.aload_n 0, 1) := by decide +kernel
theorem dX0_shootRound_18 : decode cX0_shootRound 18 = .ok (.getfield 30, 3) := by decide +kernel
theorem dX0_shootRound_21 : decode cX0_shootRound 21 = .ok (.iload_n 3, 1) := by decide +kernel
theorem dX0_shootRound_22 : decode cX0_shootRound 22 = .ok (.baload, 1) := by decide +kernel
theorem dX0_shootRound_23 : decode cX0_shootRound 23 = .ok (.ifCond .eq 22, 3) := by decide +kernel
theorem dX0_shootRound_26 : decode cX0_shootRound 26 = .ok (.aload_n 0, 1) := by decide +kernel
theorem dX0_shootRound_27 : decode cX0_shootRound 27 = .ok (.iload_n 3, 1) := by decide +kernel
theorem dX0_shootRound_28 : decode cX0_shootRound 28 = .ok (.iload_n 1, 1) := by decide +kernel
theorem dX0_shootRound_29 : decode cX0_shootRound 29 = .ok (.invokevirtual 41, 3) := by decide +kernel
theorem dX0_shootRound_32 : decode cX0_shootRound 32 = .ok (.aload_n 0, 1) := by decide +kernel
theorem dX0_shootRound_33 : decode cX0_shootRound 33 = .ok (.getfield 9, 3) := by decide +kernel
theorem dX0_shootRound_36 : decode cX0_shootRound 36 = .ok (.iload_n 3, 1) := by decide +kernel
theorem dX0_shootRound_37 : decode cX0_shootRound 37 = .ok (.iaload, 1) := by decide +kernel
theorem dX0_shootRound_38 : decode cX0_shootRound 38 = .ok (.if_icmp .gt 7, 3) := by decide +kernel
theorem dX0_shootRound_41 : decode cX0_shootRound 41 = .ok (.iconst 1, 1) := by decide +kernel
theorem dX0_shootRound_42 : decode cX0_shootRound 42 = .ok (.goto 4, 3) := by decide +kernel
theorem dX0_shootRound_45 : decode cX0_shootRound 45 = .ok (.iconst 0, 1) := by decide +kernel
theorem dX0_shootRound_46 : decode cX0_shootRound 46 = .ok (.bastore, 1) := by decide +kernel
theorem dX0_shootRound_47 : decode cX0_shootRound 47 = .ok (.iload_n 2, 1) := by decide +kernel
theorem dX0_shootRound_48 : decode cX0_shootRound 48 = .ok (.ifCond .ne 12, 3) := by decide +kernel
theorem dX0_shootRound_51 : decode cX0_shootRound 51 = .ok (.aload_n 0, 1) := by decide +kernel
theorem dX0_shootRound_52 : decode cX0_shootRound 52 = .ok (.getfield 34, 3) := by decide +kernel
theorem dX0_shootRound_55 : decode cX0_shootRound 55 = .ok (.iload_n 3, 1) := by decide +kernel
theorem dX0_shootRound_56 : decode cX0_shootRound 56 = .ok (.baload, 1) := by decide +kernel
theorem dX0_shootRound_57 : decode cX0_shootRound 57 = .ok (.ifCond .eq 7, 3) := by decide +kernel
theorem dX0_shootRound_60 : decode cX0_shootRound 60 = .ok (.iconst 1, 1) := by decide +kernel
theorem dX0_shootRound_61 : decode cX0_shootRound 61 = .ok (.goto 4, 3) := by decide +kernel
theorem dX0_shootRound_64 : decode cX0_shootRound 64 = .ok (.iconst 0, 1) := by decide +kernel
theorem dX0_shootRound_65 : decode cX0_shootRound 65 = .ok (.istore_n 2, 1) := by decide +kernel
theorem dX0_shootRound_66 : decode cX0_shootRound 66 = .ok (.aload_n 0, 1) := by decide +kernel
theorem dX0_shootRound_67 : decode cX0_shootRound 67 = .ok (.getfield 30, 3) := by decide +kernel
theorem dX0_shootRound_70 : decode cX0_shootRound 70 = .ok (.iload_n 3, 1) := by decide +kernel
theorem dX0_shootRound_71 : decode cX0_shootRound 71 = .ok (.baload, 1) := by decide +kernel
theorem dX0_shootRound_72 : decode cX0_shootRound 72 = .ok (.ifCond .eq 13, 3) := by decide +kernel
theorem dX0_shootRound_75 : decode cX0_shootRound 75 = .ok (.aload_n 0, 1) := by decide +kernel
theorem dX0_shootRound_76 : decode cX0_shootRound 76 = .ok (.getfield 18, 3) := by decide +kernel
theorem dX0_shootRound_79 : decode cX0_shootRound 79 = .ok (.iload_n 3, 1) := by decide +kernel
theorem dX0_shootRound_80 : decode cX0_shootRound 80 = .ok (.dup2, 1) := by decide +kernel
theorem dX0_shootRound_81 : decode cX0_shootRound 81 = .ok (.iaload, 1) := by decide +kernel
theorem dX0_shootRound_82 : decode cX0_shootRound 82 = .ok (.iconst 1, 1) := by decide +kernel
theorem dX0_shootRound_83 : decode cX0_shootRound 83 = .ok (.iadd, 1) := by decide +kernel
theorem dX0_shootRound_84 : decode cX0_shootRound 84 = .ok (.iastore, 1) := by decide +kernel
theorem dX0_shootRound_85 : decode cX0_shootRound 85 = .ok (.iinc 3 1, 3) := by decide +kernel
theorem dX0_shootRound_88 : decode cX0_shootRound 88 = .ok (.goto (-84), 3) := by decide +kernel
theorem dX0_shootRound_91 : decode cX0_shootRound 91 = .ok (.iload_n 2, 1) := by decide +kernel
theorem dX0_shootRound_92 : decode cX0_shootRound 92 = .ok (.ifCond .eq 7, 3) := by decide +kernel
theorem dX0_shootRound_95 : decode cX0_shootRound 95 = .ok (.aload_n 0, 1) := by decide +kernel
theorem dX0_shootRound_96 : decode cX0_shootRound 96 = .ok (.invokevirtual 84, 3) := by decide +kernel
theorem dX0_shootRound_99 : decode cX0_shootRound 99 = .ok (.return_, 1) := by decide +kernel
theorem dX0_keepThoseWhoHit_0 : decode cX0_keepThoseWhoHit 0 = .ok (.iconst 0, 1) := by decide +kernel
theorem dX0_keepThoseWhoHit_1 : decode cX0_keepThoseWhoHit 1 = .ok (.istore_n 1, 1) := by decide +kernel
theorem dX0_keepThoseWhoHit_2 : decode cX0_keepThoseWhoHit 2 = .ok (.iload_n 1, 1) := by decide +kernel
theorem dX0_keepThoseWhoHit_3 : decode cX0_keepThoseWhoHit 3 = .ok (.aload_n 0, 1) := by decide +kernel
theorem dX0_keepThoseWhoHit_4 : decode cX0_keepThoseWhoHit 4 = .ok (.getfield 37, 3) := by decide +kernel
theorem dX0_keepThoseWhoHit_7 : decode cX0_keepThoseWhoHit 7 = .ok (.if_icmp .ge 21, 3) := by decide +kernel
theorem dX0_keepThoseWhoHit_10 : decode cX0_keepThoseWhoHit 10 = .ok (.aload_n 0, 1) := by decide +kernel
theorem dX0_keepThoseWhoHit_11 : decode cX0_keepThoseWhoHit 11 = .ok (.getfield 30, 3) := by decide +kernel
theorem dX0_keepThoseWhoHit_14 : decode cX0_keepThoseWhoHit 14 = .ok (.iload_n 1, 1) := by decide +kernel
theorem dX0_keepThoseWhoHit_15 : decode cX0_keepThoseWhoHit 15 = .ok (.aload_n 0, 1) := by decide +kernel
theorem dX0_keepThoseWhoHit_16 : decode cX0_keepThoseWhoHit 16 = .ok (.getfield 34, 3) := by decide +kernel
theorem dX0_keepThoseWhoHit_19 : decode cX0_keepThoseWhoHit 19 = .ok (.iload_n 1, 1) := by decide +kernel
theorem dX0_keepThoseWhoHit_20 : decode cX0_keepThoseWhoHit 20 = .ok (.baload, 1) := by decide +kernel
theorem dX0_keepThoseWhoHit_21 : decode cX0_keepThoseWhoHit 21 = .ok (.bastore, 1) := by decide +kernel
theorem dX0_keepThoseWhoHit_22 : decode cX0_keepThoseWhoHit 22 = .ok (.iinc 1 1, 3) := by decide +kernel
theorem dX0_keepThoseWhoHit_25 : decode cX0_keepThoseWhoHit 25 = .ok (.goto (-23), 3) := by decide +kernel
theorem dX0_keepThoseWhoHit_28 : decode cX0_keepThoseWhoHit 28 = .ok (.return_, 1) := by decide +kernel
theorem dX0_countLeft_0 : decode cX0_countLeft 0 = .ok (.iconst 0, 1) := by decide +kernel
theorem dX0_countLeft_1 : decode cX0_countLeft 1 = .ok (.istore_n 1, 1) := by decide +kernel
theorem dX0_countLeft_2 : decode cX0_countLeft 2 = .ok (.iconst 0, 1) := by decide +kernel
theorem dX0_countLeft_3 : decode cX0_countLeft 3 = .ok (.istore_n 2, 1) := by decide +kernel
theorem dX0_countLeft_4 : decode cX0_countLeft 4 = .ok (.iload_n 2, 1) := by decide +kernel
theorem dX0_countLeft_5 : decode cX0_countLeft 5 = .ok (.aload_n 0, 1) := by decide +kernel
theorem dX0_countLeft_6 : decode cX0_countLeft 6 = .ok (.getfield 37, 3) := by decide +kernel
theorem dX0_countLeft_9 : decode cX0_countLeft 9 = .ok (.if_icmp .ge 21, 3) := by decide +kernel
theorem dX0_countLeft_12 : decode cX0_countLeft 12 = .ok (.aload_n 0, 1) := by decide +kernel
theorem dX0_countLeft_13 : decode cX0_countLeft 13 = .ok (.getfield 30, 3) := by decide +kernel
theorem dX0_countLeft_16 : decode cX0_countLeft 16 = .ok (.iload_n 2, 1) := by decide +kernel
theorem dX0_countLeft_17 : decode cX0_countLeft 17 = .ok (.baload, 1) := by decide +kernel
theorem dX0_countLeft_18 : decode cX0_countLeft 18 = .ok (.ifCond .eq 6, 3) := by decide +kernel
theorem dX0_countLeft_21 : decode cX0_countLeft 21 = .ok (.iinc 1 1, 3) := by decide +kernel
theorem dX0_countLeft_24 : decode cX0_countLeft 24 = .ok (.iinc 2 1, 3) := by decide +kernel
theorem dX0_countLeft_27 : decode cX0_countLeft 27 = .ok (.goto (-23), 3) := by decide +kernel
theorem dX0_countLeft_30 : decode cX0_countLeft 30 = .ok (.iload_n 1, 1) := by decide +kernel
theorem dX0_countLeft_31 : decode cX0_countLeft 31 = .ok (.ireturn, 1) := by decide +kernel
theorem dX0_firstLeft_0 : decode cX0_firstLeft 0 = .ok (.iconst 0, 1) := by decide +kernel
theorem dX0_firstLeft_1 : decode cX0_firstLeft 1 = .ok (.istore_n 1, 1) := by decide +kernel
theorem dX0_firstLeft_2 : decode cX0_firstLeft 2 = .ok (.iload_n 1, 1) := by decide +kernel
theorem dX0_firstLeft_3 : decode cX0_firstLeft 3 = .ok (.aload_n 0, 1) := by decide +kernel
theorem dX0_firstLeft_4 : decode cX0_firstLeft 4 = .ok (.getfield 37, 3) := by decide +kernel
theorem dX0_firstLeft_7 : decode cX0_firstLeft 7 = .ok (.if_icmp .ge 20, 3) := by decide +kernel
theorem dX0_firstLeft_10 : decode cX0_firstLeft 10 = .ok (.aload_n 0, 1) := by decide +kernel
theorem dX0_firstLeft_11 : decode cX0_firstLeft 11 = .ok (.getfield 30, 3) := by decide +kernel
theorem dX0_firstLeft_14 : decode cX0_firstLeft 14 = .ok (.iload_n 1, 1) := by decide +kernel
theorem dX0_firstLeft_15 : decode cX0_firstLeft 15 = .ok (.baload, 1) := by decide +kernel
theorem dX0_firstLeft_16 : decode cX0_firstLeft 16 = .ok (.ifCond .eq 5, 3) := by decide +kernel
theorem dX0_firstLeft_19 : decode cX0_firstLeft 19 = .ok (.iload_n 1, 1) := by decide +kernel
theorem dX0_firstLeft_20 : decode cX0_firstLeft 20 = .ok (.ireturn, 1) := by decide +kernel
theorem dX0_firstLeft_21 : decode cX0_firstLeft 21 = .ok (.iinc 1 1, 3) := by decide +kernel
theorem dX0_firstLeft_24 : decode cX0_firstLeft 24 = .ok (.goto (-22), 3) := by decide +kernel
theorem dX0_firstLeft_27 : decode cX0_firstLeft 27 = .ok (.iconst (-1), 1) := by decide +kernel
theorem dX0_firstLeft_28 : decode cX0_firstLeft 28 = .ok (.ireturn, 1) := by decide +kernel
theorem dX1_init_0 : decode cX1_init 0 = .ok (.aload_n 0, 1) := by decide +kernel
theorem dX1_init_1 : decode cX1_init 1 = .ok (.invokespecial 3, 3) := by decide +kernel
theorem dX1_init_4 : decode cX1_init 4 = .ok (.aload_n 0, 1) := by decide +kernel
theorem dX1_init_5 : decode cX1_init 5 = .ok (.iconst 5, 1) := by decide +kernel
theorem dX1_init_6 : decode cX1_init 6 = .ok (.newarray .int, 2) := by decide +kernel
theorem dX1_init_8 : decode cX1_init 8 = .ok (.putfield 9, 3) := by decide +kernel
theorem dX1_init_11 : decode cX1_init 11 = .ok (.aload_n 0, 1) := by decide +kernel
theorem dX1_init_12 : decode cX1_init 12 = .ok (.iconst 5, 1) := by decide +kernel
theorem dX1_init_13 : decode cX1_init 13 = .ok (.newarray .int, 2) := by decide +kernel
theorem dX1_init_15 : decode cX1_init 15 = .ok (.putfield 15, 3) := by decide +kernel
theorem dX1_init_18 : decode cX1_init 18 = .ok (.iconst 0, 1) := by decide +kernel
theorem dX1_init_19 : decode cX1_init 19 = .ok (.istore_n 1, 1) := by decide +kernel
theorem dX1_init_20 : decode cX1_init 20 = .ok (.iload_n 1, 1) := by decide +kernel
theorem dX1_init_21 : decode cX1_init 21 = .ok (.iconst 5, 1) := by decide +kernel
theorem dX1_init_22 : decode cX1_init 22 = .ok (.if_icmp .ge 17, 3) := by decide +kernel
theorem dX1_init_25 : decode cX1_init 25 = .ok (.aload_n 0, 1) := by decide +kernel
theorem dX1_init_26 : decode cX1_init 26 = .ok (.getfield 15, 3) := by decide +kernel
theorem dX1_init_29 : decode cX1_init 29 = .ok (.iload_n 1, 1) := by decide +kernel
theorem dX1_init_30 : decode cX1_init 30 = .ok (.bipush 20, 2) := by decide +kernel
theorem dX1_init_32 : decode cX1_init 32 = .ok (.iastore, 1) := by decide +kernel
theorem dX1_init_33 : decode cX1_init 33 = .ok (.iinc 1 1, 3) := by decide +kernel
theorem dX1_init_36 : decode cX1_init 36 = .ok (.goto (-16), 3) := by decide +kernel
theorem dX1_init_39 : decode cX1_init 39 = .ok (.return_, 1) := by decide +kernel
theorem dX1_angleAt_0 : decode cX1_angleAt 0 = .ok (.aload_n 0, 1) := by decide +kernel
theorem dX1_angleAt_1 : decode cX1_angleAt 1 = .ok (.getfield 9, 3) := by decide +kernel
theorem dX1_angleAt_4 : decode cX1_angleAt 4 = .ok (.iload_n 1, 1) := by decide +kernel
theorem dX1_angleAt_5 : decode cX1_angleAt 5 = .ok (.iaload, 1) := by decide +kernel
theorem dX1_angleAt_6 : decode cX1_angleAt 6 = .ok (.aload_n 0, 1) := by decide +kernel
theorem dX1_angleAt_7 : decode cX1_angleAt 7 = .ok (.getfield 15, 3) := by decide +kernel
theorem dX1_angleAt_10 : decode cX1_angleAt 10 = .ok (.iload_n 1, 1) := by decide +kernel
theorem dX1_angleAt_11 : decode cX1_angleAt 11 = .ok (.iaload, 1) := by decide +kernel
theorem dX1_angleAt_12 : decode cX1_angleAt 12 = .ok (.iload_n 2, 1) := by decide +kernel
theorem dX1_angleAt_13 : decode cX1_angleAt 13 = .ok (.iconst 2, 1) := by decide +kernel
theorem dX1_angleAt_14 : decode cX1_angleAt 14 = .ok (.isub, 1) := by decide +kernel
theorem dX1_angleAt_15 : decode cX1_angleAt 15 = .ok (.imul, 1) := by decide +kernel
theorem dX1_angleAt_16 : decode cX1_angleAt 16 = .ok (.iconst 2, 1) := by decide +kernel
theorem dX1_angleAt_17 : decode cX1_angleAt 17 = .ok (.idiv, 1) := by decide +kernel
theorem dX1_angleAt_18 : decode cX1_angleAt 18 = .ok (.iadd, 1) := by decide +kernel
theorem dX1_angleAt_19 : decode cX1_angleAt 19 = .ok (.ireturn, 1) := by decide +kernel
theorem dX1_angleIn_0 : decode cX1_angleIn 0 = .ok (.aload_n 0, 1) := by decide +kernel
theorem dX1_angleIn_1 : decode cX1_angleIn 1 = .ok (.iload_n 1, 1) := by decide +kernel
theorem dX1_angleIn_2 : decode cX1_angleIn 2 = .ok (.iload_n 2, 1) := by decide +kernel
theorem dX1_angleIn_3 : decode cX1_angleIn 3 = .ok (.invokestatic 18, 3) := by decide +kernel
theorem dX1_angleIn_6 : decode cX1_angleIn 6 = .ok (.iload_n 1, 1) := by decide +kernel
theorem dX1_angleIn_7 : decode cX1_angleIn 7 = .ok (.invokestatic 22, 3) := by decide +kernel
theorem dX1_angleIn_10 : decode cX1_angleIn 10 = .ok (.invokevirtual 26, 3) := by decide +kernel
theorem dX1_angleIn_13 : decode cX1_angleIn 13 = .ok (.ireturn, 1) := by decide +kernel
theorem dX1_amountAt_0 : decode cX1_amountAt 0 = .ok (.aload_n 0, 1) := by decide +kernel
theorem dX1_amountAt_1 : decode cX1_amountAt 1 = .ok (.iload_n 1, 1) := by decide +kernel
theorem dX1_amountAt_2 : decode cX1_amountAt 2 = .ok (.iload_n 2, 1) := by decide +kernel
theorem dX1_amountAt_3 : decode cX1_amountAt 3 = .ok (.invokevirtual 26, 3) := by decide +kernel
theorem dX1_amountAt_6 : decode cX1_amountAt 6 = .ok (.invokestatic 29, 3) := by decide +kernel
theorem dX1_amountAt_9 : decode cX1_amountAt 9 = .ok (.ireturn, 1) := by decide +kernel
theorem dX1_amountIn_0 : decode cX1_amountIn 0 = .ok (.aload_n 0, 1) := by decide +kernel
theorem dX1_amountIn_1 : decode cX1_amountIn 1 = .ok (.iload_n 1, 1) := by decide +kernel
theorem dX1_amountIn_2 : decode cX1_amountIn 2 = .ok (.iload_n 2, 1) := by decide +kernel
theorem dX1_amountIn_3 : decode cX1_amountIn 3 = .ok (.invokevirtual 34, 3) := by decide +kernel
theorem dX1_amountIn_6 : decode cX1_amountIn 6 = .ok (.invokestatic 29, 3) := by decide +kernel
theorem dX1_amountIn_9 : decode cX1_amountIn 9 = .ok (.ireturn, 1) := by decide +kernel
theorem dX1_hardestAt_0 : decode cX1_hardestAt 0 = .ok (.iconst 0, 1) := by decide +kernel
theorem dX1_hardestAt_1 : decode cX1_hardestAt 1 = .ok (.istore_n 2, 1) := by decide +kernel
theorem dX1_hardestAt_2 : decode cX1_hardestAt 2 = .ok (.iconst 1, 1) := by decide +kernel
theorem dX1_hardestAt_3 : decode cX1_hardestAt 3 = .ok (.istore_n 3, 1) := by decide +kernel
theorem dX1_hardestAt_4 : decode cX1_hardestAt 4 = .ok (.iload_n 3, 1) := by decide +kernel
theorem dX1_hardestAt_5 : decode cX1_hardestAt 5 = .ok (.iconst 5, 1) := by decide +kernel
theorem dX1_hardestAt_6 : decode cX1_hardestAt 6 = .ok (.if_icmp .ge 26, 3) := by decide +kernel
theorem dX1_hardestAt_9 : decode cX1_hardestAt 9 = .ok (.aload_n 0, 1) := by decide +kernel
theorem dX1_hardestAt_10 : decode cX1_hardestAt 10 = .ok (.iload_n 1, 1) := by decide +kernel
theorem dX1_hardestAt_11 : decode cX1_hardestAt 11 = .ok (.iload_n 3, 1) := by decide +kernel
theorem dX1_hardestAt_12 : decode cX1_hardestAt 12 = .ok (.invokevirtual 37, 3) := by decide +kernel
theorem dX1_hardestAt_15 : decode cX1_hardestAt 15 = .ok (.aload_n 0, 1) := by decide +kernel
theorem dX1_hardestAt_16 : decode cX1_hardestAt 16 = .ok (.iload_n 1, 1) := by decide +kernel
theorem dX1_hardestAt_17 : decode cX1_hardestAt 17 = .ok (.iload_n 2, 1) := by decide +kernel
theorem dX1_hardestAt_18 : decode cX1_hardestAt 18 = .ok (.invokevirtual 37, 3) := by decide +kernel
theorem dX1_hardestAt_21 : decode cX1_hardestAt 21 = .ok (.if_icmp .le 5, 3) := by decide +kernel
theorem dX1_hardestAt_24 : decode cX1_hardestAt 24 = .ok (.iload_n 3, 1) := by decide +kernel
theorem dX1_hardestAt_25 : decode cX1_hardestAt 25 = .ok (.istore_n 2, 1) := by decide +kernel
theorem dX1_hardestAt_26 : decode cX1_hardestAt 26 = .ok (.iinc 3 1, 3) := by decide +kernel
theorem dX1_hardestAt_29 : decode cX1_hardestAt 29 = .ok (.goto (-25), 3) := by decide +kernel
theorem dX1_hardestAt_32 : decode cX1_hardestAt 32 = .ok (.iload_n 2, 1) := by decide +kernel
theorem dX1_hardestAt_33 : decode cX1_hardestAt 33 = .ok (.ireturn, 1) := by decide +kernel
theorem dX1_greatestAmount_0 : decode cX1_greatestAmount 0 = .ok (.iconst 0, 1) := by decide +kernel
theorem dX1_greatestAmount_1 : decode cX1_greatestAmount 1 = .ok (.istore_n 1, 1) := by decide +kernel
theorem dX1_greatestAmount_2 : decode cX1_greatestAmount 2 = .ok (.iconst 0, 1) := by decide +kernel
theorem dX1_greatestAmount_3 : decode cX1_greatestAmount 3 = .ok (.istore_n 2, 1) := by decide +kernel
theorem dX1_greatestAmount_4 : decode cX1_greatestAmount 4 = .ok (.iload_n 2, 1) := by decide +kernel
theorem dX1_greatestAmount_5 : decode cX1_greatestAmount 5 = .ok (.iconst 5, 1) := by decide +kernel
theorem dX1_greatestAmount_6 : decode cX1_greatestAmount 6 = .ok (.if_icmp .ge 24, 3) := by decide +kernel
theorem dX1_greatestAmount_9 : decode cX1_greatestAmount 9 = .ok (.iload_n 1, 1) := by decide +kernel
theorem dX1_greatestAmount_10 : decode cX1_greatestAmount 10 = .ok (.aload_n 0, 1) := by decide +kernel
theorem dX1_greatestAmount_11 : decode cX1_greatestAmount 11 = .ok (.iload_n 2, 1) := by decide +kernel
theorem dX1_greatestAmount_12 : decode cX1_greatestAmount 12 = .ok (.aload_n 0, 1) := by decide +kernel
theorem dX1_greatestAmount_13 : decode cX1_greatestAmount 13 = .ok (.iload_n 2, 1) := by decide +kernel
theorem dX1_greatestAmount_14 : decode cX1_greatestAmount 14 = .ok (.invokevirtual 40, 3) := by decide +kernel
theorem dX1_greatestAmount_17 : decode cX1_greatestAmount 17 = .ok (.invokevirtual 37, 3) := by decide +kernel
theorem dX1_greatestAmount_20 : decode cX1_greatestAmount 20 = .ok (.invokestatic 43, 3) := by decide +kernel
theorem dX1_greatestAmount_23 : decode cX1_greatestAmount 23 = .ok (.istore_n 1, 1) := by decide +kernel
theorem dX1_greatestAmount_24 : decode cX1_greatestAmount 24 = .ok (.iinc 2 1, 3) := by decide +kernel
theorem dX1_greatestAmount_27 : decode cX1_greatestAmount 27 = .ok (.goto (-23), 3) := by decide +kernel
theorem dX1_greatestAmount_30 : decode cX1_greatestAmount 30 = .ok (.iload_n 1, 1) := by decide +kernel
theorem dX1_greatestAmount_31 : decode cX1_greatestAmount 31 = .ok (.ireturn, 1) := by decide +kernel
end
section
theorem dX2_init_0 : decode cX2_init 0 = .ok (.aload_n 0, 1) := by decide +kernel
theorem dX2_init_1 : decode cX2_init 1 = .ok (.invokespecial 1, 3) := by decide +kernel
theorem dX2_init_4 : decode cX2_init 4 = .ok (.aload_n 0, 1) := by decide +kernel
theorem dX2_init_5 : decode cX2_init 5 = .ok (.new 7, 3) := by decide +kernel
theorem dX2_init_8 : decode cX2_init 8 = .ok (.dup, 1) := by decide +kernel
theorem dX2_init_9 : decode cX2_init 9 = .ok (.invokespecial 9, 3) := by decide +kernel
theorem dX2_init_12 : decode cX2_init 12 = .ok (.putfield 10, 3) := by decide +kernel
theorem dX2_init_15 : decode cX2_init 15 = .ok (.aload_n 0, 1) := by decide +kernel
theorem dX2_init_16 : decode cX2_init 16 = .ok (.new 16, 3) := by decide +kernel
theorem dX2_init_19 : decode cX2_init 19 = .ok (.dup, 1) := by decide +kernel
theorem dX2_init_20 : decode cX2_init 20 = .ok (.invokespecial 18, 3) := by decide +kernel
theorem dX2_init_23 : decode cX2_init 23 = .ok (.putfield 19, 3) := by decide +kernel
theorem dX2_init_26 : decode cX2_init 26 = .ok (.aload_n 0, 1) := by decide +kernel
theorem dX2_init_27 : decode cX2_init 27 = .ok (.new 16, 3) := by decide +kernel
theorem dX2_init_30 : decode cX2_init 30 = .ok (.dup, 1) := by decide +kernel
theorem dX2_init_31 : decode cX2_init 31 = .ok (.invokespecial 18, 3) := by decide +kernel
theorem dX2_init_34 : decode cX2_init 34 = .ok (.putfield 23, 3) := by decide +kernel
theorem dX2_init_37 : decode cX2_init 37 = .ok (.return_, 1) := by decide +kernel
theorem dX2_addGun_0 : decode cX2_addGun 0 = .ok (.iload_n 1, 1) := by decide +kernel
theorem dX2_addGun_1 : decode cX2_addGun 1 = .ok (.iconst 5, 1) := by decide +kernel
theorem dX2_addGun_2 : decode cX2_addGun 2 = .ok (.if_icmp .lt 9, 3) := by decide +kernel
theorem dX2_addGun_5 : decode cX2_addGun 5 = .ok (.iload_n 1, 1) := by decide +kernel
theorem dX2_addGun_6 : decode cX2_addGun 6 = .ok (.bipush 60, 2) := by decide +kernel
theorem dX2_addGun_8 : decode cX2_addGun 8 = .ok (.if_icmp .le 13, 3) := by decide +kernel
theorem dX2_addGun_11 : decode cX2_addGun 11 = .ok (.new 26, 3) := by decide +kernel
theorem dX2_addGun_14 : decode cX2_addGun 14 = .ok (.dup, 1) := by decide +kernel
theorem dX2_addGun_15 : decode cX2_addGun 15 = .ok (.ldc 28, 2) := by decide +kernel
theorem dX2_addGun_17 : decode cX2_addGun 17 = .ok (.invokespecial 30, 3) := by decide +kernel
theorem dX2_addGun_20 : decode cX2_addGun 20 = .ok (.athrow, 1) := by decide +kernel
theorem dX2_addGun_21 : decode cX2_addGun 21 = .ok (.iload_n 2, 1) := by decide +kernel
theorem dX2_addGun_22 : decode cX2_addGun 22 = .ok (.iconst 1, 1) := by decide +kernel
theorem dX2_addGun_23 : decode cX2_addGun 23 = .ok (.if_icmp .lt 9, 3) := by decide +kernel
theorem dX2_addGun_26 : decode cX2_addGun 26 = .ok (.iload_n 2, 1) := by decide +kernel
theorem dX2_addGun_27 : decode cX2_addGun 27 = .ok (.bipush 9, 2) := by decide +kernel
theorem dX2_addGun_29 : decode cX2_addGun 29 = .ok (.if_icmp .le 13, 3) := by decide +kernel
theorem dX2_addGun_32 : decode cX2_addGun 32 = .ok (.new 26, 3) := by decide +kernel
theorem dX2_addGun_35 : decode cX2_addGun 35 = .ok (.dup, 1) := by decide +kernel
theorem dX2_addGun_36 : decode cX2_addGun 36 = .ok (.ldc 33, 2) := by decide +kernel
theorem dX2_addGun_38 : decode cX2_addGun 38 = .ok (.invokespecial 30, 3) := by decide +kernel
theorem dX2_addGun_41 : decode cX2_addGun 41 = .ok (.athrow, 1) := by decide +kernel
theorem dX2_addGun_42 : decode cX2_addGun 42 = .ok (.aload_n 0, 1) := by decide +kernel
theorem dX2_addGun_43 : decode cX2_addGun 43 = .ok (.getfield 19, 3) := by decide +kernel
theorem dX2_addGun_46 : decode cX2_addGun 46 = .ok (.getfield 35, 3) := by decide +kernel
theorem dX2_addGun_49 : decode cX2_addGun 49 = .ok (.bipush 6, 2) := by decide +kernel
theorem dX2_addGun_51 : decode cX2_addGun 51 = .ok (.if_icmp .lt 13, 3) := by decide +kernel
theorem dX2_addGun_54 : decode cX2_addGun 54 = .ok (.new 39, 3) := by decide +kernel
theorem dX2_addGun_57 : decode cX2_addGun 57 = .ok (.dup, 1) := by decide +kernel
theorem dX2_addGun_58 : decode cX2_addGun 58 = .ok (.ldc 41, 2) := by decide +kernel
theorem dX2_addGun_60 : decode cX2_addGun 60 = .ok (.invokespecial 43, 3) := by decide +kernel
theorem dX2_addGun_63 : decode cX2_addGun 63 = .ok (.athrow, 1) := by decide +kernel
theorem dX2_addGun_64 : decode cX2_addGun 64 = .ok (.aload_n 0, 1) := by decide +kernel
theorem dX2_addGun_65 : decode cX2_addGun 65 = .ok (.getfield 19, 3) := by decide +kernel
theorem dX2_addGun_68 : decode cX2_addGun 68 = .ok (.iload_n 1, 1) := by decide +kernel
theorem dX2_addGun_69 : decode cX2_addGun 69 = .ok (.iload_n 2, 1) := by decide +kernel
theorem dX2_addGun_70 : decode cX2_addGun 70 = .ok (.invokevirtual 44, 3) := by decide +kernel
theorem dX2_addGun_73 : decode cX2_addGun 73 = .ok (.ireturn, 1) := by decide +kernel
theorem dX2_setTrap_0 : decode cX2_setTrap 0 = .ok (.iload_n 1, 1) := by decide +kernel
theorem dX2_setTrap_1 : decode cX2_setTrap 1 = .ok (.invokestatic 48, 3) := by decide +kernel
theorem dX2_setTrap_4 : decode cX2_setTrap 4 = .ok (.iload_n 2, 1) := by decide +kernel
theorem dX2_setTrap_5 : decode cX2_setTrap 5 = .ok (.bipush (-45), 2) := by decide +kernel
theorem dX2_setTrap_7 : decode cX2_setTrap 7 = .ok (.if_icmp .lt 9, 3) := by decide +kernel
theorem dX2_setTrap_10 : decode cX2_setTrap 10 = .ok (.iload_n 2, 1) := by decide +kernel
theorem dX2_setTrap_11 : decode cX2_setTrap 11 = .ok (.bipush 45, 2) := by decide +kernel
theorem dX2_setTrap_13 : decode cX2_setTrap 13 = .ok (.if_icmp .le 13, 3) := by decide +kernel
theorem dX2_setTrap_16 : decode cX2_setTrap 16 = .ok (.new 26, 3) := by decide +kernel
theorem dX2_setTrap_19 : decode cX2_setTrap 19 = .ok (.dup, 1) := by decide +kernel
theorem dX2_setTrap_20 : decode cX2_setTrap 20 = .ok (.ldc 52, 2) := by decide +kernel
theorem dX2_setTrap_22 : decode cX2_setTrap 22 = .ok (.invokespecial 30, 3) := by decide +kernel
theorem dX2_setTrap_25 : decode cX2_setTrap 25 = .ok (.athrow, 1) := by decide +kernel
theorem dX2_setTrap_26 : decode cX2_setTrap 26 = .ok (.iload_n 3, 1) := by decide +kernel
theorem dX2_setTrap_27 : decode cX2_setTrap 27 = .ok (.ifCond .lt 9, 3) := by decide +kernel
theorem dX2_setTrap_30 : decode cX2_setTrap 30 = .ok (.iload_n 3, 1) := by decide +kernel
theorem dX2_setTrap_31 : decode cX2_setTrap 31 = .ok (.bipush 45, 2) := by decide +kernel
theorem dX2_setTrap_33 : decode cX2_setTrap 33 = .ok (.if_icmp .le 13, 3) := by decide +kernel
theorem dX2_setTrap_36 : decode cX2_setTrap 36 = .ok (.new 26, 3) := by decide +kernel
theorem dX2_setTrap_39 : decode cX2_setTrap 39 = .ok (.dup, 1) := by decide +kernel
theorem dX2_setTrap_40 : decode cX2_setTrap 40 = .ok (.ldc 54, 2) := by decide +kernel
theorem dX2_setTrap_42 : decode cX2_setTrap 42 = .ok (.invokespecial 30, 3) := by decide +kernel
theorem dX2_setTrap_45 : decode cX2_setTrap 45 = .ok (.athrow, 1) := by decide +kernel
theorem dX2_setTrap_46 : decode cX2_setTrap 46 = .ok (.aload_n 0, 1) := by decide +kernel
theorem dX2_setTrap_47 : decode cX2_setTrap 47 = .ok (.getfield 10, 3) := by decide +kernel
theorem dX2_setTrap_50 : decode cX2_setTrap 50 = .ok (.getfield 56, 3) := by decide +kernel
theorem dX2_setTrap_53 : decode cX2_setTrap 53 = .ok (.iload_n 1, 1) := by decide +kernel
theorem dX2_setTrap_54 : decode cX2_setTrap 54 = .ok (.iaload, 1) := by decide +kernel
theorem dX2_setTrap_55 : decode cX2_setTrap 55 = .ok (.istore 4, 2) := by decide +kernel
theorem dX2_setTrap_57 : decode cX2_setTrap 57 = .ok (.aload_n 0, 1) := by decide +kernel
theorem dX2_setTrap_58 : decode cX2_setTrap 58 = .ok (.getfield 10, 3) := by decide +kernel
theorem dX2_setTrap_61 : decode cX2_setTrap 61 = .ok (.getfield 56, 3) := by decide +kernel
theorem dX2_setTrap_64 : decode cX2_setTrap 64 = .ok (.iload_n 1, 1) := by decide +kernel
theorem dX2_setTrap_65 : decode cX2_setTrap 65 = .ok (.iload_n 2, 1) := by decide +kernel
theorem dX2_setTrap_66 : decode cX2_setTrap 66 = .ok (.iastore, 1) := by decide +kernel
theorem dX2_setTrap_67 : decode cX2_setTrap 67 = .ok (.aload_n 0, 1) := by decide +kernel
theorem dX2_setTrap_68 : decode cX2_setTrap 68 = .ok (.getfield 10, 3) := by decide +kernel
theorem dX2_setTrap_71 : decode cX2_setTrap 71 = .ok (.getfield 60, 3) := by decide +kernel
theorem dX2_setTrap_74 : decode cX2_setTrap 74 = .ok (.iload_n 1, 1) := by decide +kernel
theorem dX2_setTrap_75 : decode cX2_setTrap 75 = .ok (.iload_n 3, 1) := by decide +kernel
theorem dX2_setTrap_76 : decode cX2_setTrap 76 = .ok (.iastore, 1) := by decide +kernel
theorem dX2_setTrap_77 : decode cX2_setTrap 77 = .ok (.iload 4, 2) := by decide +kernel
theorem dX2_setTrap_79 : decode cX2_setTrap 79 = .ok (.ireturn, 1) := by decide +kernel
theorem dX2_rest_0 : decode cX2_rest 0 = .ok (.aload_n 0, 1) := by decide +kernel
theorem dX2_rest_1 : decode cX2_rest 1 = .ok (.iload_n 1, 1) := by decide +kernel
theorem dX2_rest_2 : decode cX2_rest 2 = .ok (.invokevirtual 63, 3) := by decide +kernel
theorem dX2_rest_5 : decode cX2_rest 5 = .ok (.aload_n 0, 1) := by decide +kernel
theorem dX2_rest_6 : decode cX2_rest 6 = .ok (.getfield 19, 3) := by decide +kernel
theorem dX2_rest_9 : decode cX2_rest 9 = .ok (.getfield 66, 3) := by decide +kernel
theorem dX2_rest_12 : decode cX2_rest 12 = .ok (.iload_n 1, 1) := by decide +kernel
theorem dX2_rest_13 : decode cX2_rest 13 = .ok (.iaload, 1) := by decide +kernel
theorem dX2_rest_14 : decode cX2_rest 14 = .ok (.istore_n 2, 1) := by decide +kernel
theorem dX2_rest_15 : decode cX2_rest 15 = .ok (.aload_n 0, 1) := by decide +kernel
theorem dX2_rest_16 : decode cX2_rest 16 = .ok (.getfield 19, 3) := by decide +kernel
theorem dX2_rest_19 : decode cX2_rest 19 = .ok (.getfield 66, 3) := by decide +kernel
theorem dX2_rest_22 : decode cX2_rest 22 = .ok (.iload_n 1, 1) := by decide +kernel
theorem dX2_rest_23 : decode cX2_rest 23 = .ok (.iconst 0, 1) := by decide +kernel
theorem dX2_rest_24 : decode cX2_rest 24 = .ok (.iastore, 1) := by decide +kernel
theorem dX2_rest_25 : decode cX2_rest 25 = .ok (.iload_n 2, 1) := by decide +kernel
theorem dX2_rest_26 : decode cX2_rest 26 = .ok (.ireturn, 1) := by decide +kernel
theorem dX2_pass_0 : decode cX2_pass 0 = .ok (.iload_n 1, 1) := by decide +kernel
theorem dX2_pass_1 : decode cX2_pass 1 = .ok (.invokestatic 69, 3) := by decide +kernel
theorem dX2_pass_4 : decode cX2_pass 4 = .ok (.aload_n 0, 1) := by decide +kernel
theorem dX2_pass_5 : decode cX2_pass 5 = .ok (.getfield 19, 3) := by decide +kernel
theorem dX2_pass_8 : decode cX2_pass 8 = .ok (.aload_n 0, 1) := by decide +kernel
theorem dX2_pass_9 : decode cX2_pass 9 = .ok (.getfield 10, 3) := by decide +kernel
theorem dX2_pass_12 : decode cX2_pass 12 = .ok (.aload_n 0, 1) := by decide +kernel
theorem dX2_pass_13 : decode cX2_pass 13 = .ok (.getfield 72, 3) := by decide +kernel
theorem dX2_pass_16 : decode cX2_pass 16 = .ok (.iload_n 1, 1) := by decide +kernel
theorem dX2_pass_17 : decode cX2_pass 17 = .ok (.invokevirtual 75, 3) := by decide +kernel
theorem dX2_pass_20 : decode cX2_pass 20 = .ok (.istore_n 2, 1) := by decide +kernel
theorem dX2_pass_21 : decode cX2_pass 21 = .ok (.aload_n 0, 1) := by decide +kernel
theorem dX2_pass_22 : decode cX2_pass 22 = .ok (.dup, 1) := by decide +kernel
theorem dX2_pass_23 : decode cX2_pass 23 = .ok (.getfield 72, 3) := by decide +kernel
theorem dX2_pass_26 : decode cX2_pass 26 = .ok (.iload_n 1, 1) := by decide +kernel
theorem dX2_pass_27 : decode cX2_pass 27 = .ok (.iadd, 1) := by decide +kernel
theorem dX2_pass_28 : decode cX2_pass 28 = .ok (.putfield 72, 3) := by decide +kernel
theorem dX2_pass_31 : decode cX2_pass 31 = .ok (.iload_n 2, 1) := by decide +kernel
theorem dX2_pass_32 : decode cX2_pass 32 = .ok (.ireturn, 1) := by decide +kernel
theorem dX2_shootOff_0 : decode cX2_shootOff 0 = .ok (.aload_n 0, 1) := by decide +kernel
theorem dX2_shootOff_1 : decode cX2_shootOff 1 = .ok (.getfield 19, 3) := by decide +kernel
theorem dX2_shootOff_4 : decode cX2_shootOff 4 = .ok (.getfield 35, 3) := by decide +kernel
theorem dX2_shootOff_7 : decode cX2_shootOff 7 = .ok (.ifCond .ne 13, 3) := by decide +kernel
theorem dX2_shootOff_10 : decode cX2_shootOff 10 = .ok (.new 39, 3) := by decide +kernel
theorem dX2_shootOff_13 : decode cX2_shootOff 13 = .ok (.dup, 1) := by decide +kernel
theorem dX2_shootOff_14 : decode cX2_shootOff 14 = .ok (.ldc 79, 2) := by decide +kernel
theorem dX2_shootOff_16 : decode cX2_shootOff 16 = .ok (.invokespecial 43, 3) := by decide +kernel
theorem dX2_shootOff_19 : decode cX2_shootOff 19 = .ok (.athrow, 1) := by decide +kernel
theorem dX2_shootOff_20 : decode cX2_shootOff 20 = .ok (.aload_n 0, 1) := by decide +kernel
theorem dX2_shootOff_21 : decode cX2_shootOff 21 = .ok (.getfield 19, 3) := by decide +kernel
theorem dX2_shootOff_24 : decode cX2_shootOff 24 = .ok (.invokevirtual 81, 3) := by decide +kernel
theorem dX2_shootOff_27 : decode cX2_shootOff 27 = .ok (.ireturn, 1) := by decide +kernel
theorem dX2_turn_0 : decode cX2_turn 0 = .ok (.aload_n 0, 1) := by decide +kernel
theorem dX2_turn_1 : decode cX2_turn 1 = .ok (.getfield 72, 3) := by decide +kernel
theorem dX2_turn_4 : decode cX2_turn 4 = .ok (.ireturn, 1) := by decide +kernel
theorem dX2_angle_0 : decode cX2_angle 0 = .ok (.iload_n 1, 1) := by decide +kernel
theorem dX2_angle_1 : decode cX2_angle 1 = .ok (.invokestatic 48, 3) := by decide +kernel
theorem dX2_angle_4 : decode cX2_angle 4 = .ok (.iload_n 2, 1) := by decide +kernel
theorem dX2_angle_5 : decode cX2_angle 5 = .ok (.ifCond .lt 8, 3) := by decide +kernel
theorem dX2_angle_8 : decode cX2_angle 8 = .ok (.iload_n 2, 1) := by decide +kernel
theorem dX2_angle_9 : decode cX2_angle 9 = .ok (.iconst 5, 1) := by decide +kernel
theorem dX2_angle_10 : decode cX2_angle 10 = .ok (.if_icmp .lt 13, 3) := by decide +kernel
theorem dX2_angle_13 : decode cX2_angle 13 = .ok (.new 85, 3) := by decide +kernel
theorem dX2_angle_16 : decode cX2_angle 16 = .ok (.dup, 1) := by decide +kernel
theorem dX2_angle_17 : decode cX2_angle 17 = .ok (.ldc 87, 2) := by decide +kernel
theorem dX2_angle_19 : decode cX2_angle 19 = .ok (.invokespecial 89, 3) := by decide +kernel
theorem dX2_angle_22 : decode cX2_angle 22 = .ok (.athrow, 1) := by decide +kernel
theorem dX2_angle_23 : decode cX2_angle 23 = .ok (.aload_n 0, 1) := by decide +kernel
theorem dX2_angle_24 : decode cX2_angle 24 = .ok (.getfield 10, 3) := by decide +kernel
theorem dX2_angle_27 : decode cX2_angle 27 = .ok (.iload_n 1, 1) := by decide +kernel
theorem dX2_angle_28 : decode cX2_angle 28 = .ok (.iload_n 2, 1) := by decide +kernel
theorem dX2_angle_29 : decode cX2_angle 29 = .ok (.invokevirtual 90, 3) := by decide +kernel
theorem dX2_angle_32 : decode cX2_angle 32 = .ok (.ireturn, 1) := by decide +kernel
theorem dX2_hardestClay_0 : decode cX2_hardestClay 0 = .ok (.iload_n 1, 1) := by decide +kernel
theorem dX2_hardestClay_1 : decode cX2_hardestClay 1 = .ok (.invokestatic 48, 3) := by decide +kernel
theorem dX2_hardestClay_4 : decode cX2_hardestClay 4 = .ok (.aload_n 0, 1) := by decide +kernel
theorem dX2_hardestClay_5 : decode cX2_hardestClay 5 = .ok (.getfield 10, 3) := by decide +kernel
theorem dX2_hardestClay_8 : decode cX2_hardestClay 8 = .ok (.iload_n 1, 1) := by decide +kernel
theorem dX2_hardestClay_9 : decode cX2_hardestClay 9 = .ok (.invokevirtual 93, 3) := by decide +kernel
theorem dX2_hardestClay_12 : decode cX2_hardestClay 12 = .ok (.ireturn, 1) := by decide +kernel
theorem dX2_standOf_0 : decode cX2_standOf 0 = .ok (.aload_n 0, 1) := by decide +kernel
theorem dX2_standOf_1 : decode cX2_standOf 1 = .ok (.iload_n 1, 1) := by decide +kernel
theorem dX2_standOf_2 : decode cX2_standOf 2 = .ok (.invokevirtual 63, 3) := by decide +kernel
theorem dX2_standOf_5 : decode cX2_standOf 5 = .ok (.aload_n 0, 1) := by decide +kernel
theorem dX2_standOf_6 : decode cX2_standOf 6 = .ok (.getfield 72, 3) := by decide +kernel
theorem dX2_standOf_9 : decode cX2_standOf 9 = .ok (.iload_n 1, 1) := by decide +kernel
theorem dX2_standOf_10 : decode cX2_standOf 10 = .ok (.invokestatic 97, 3) := by decide +kernel
theorem dX2_standOf_13 : decode cX2_standOf 13 = .ok (.ireturn, 1) := by decide +kernel
theorem dX2_angleFor_0 : decode cX2_angleFor 0 = .ok (.aload_n 0, 1) := by decide +kernel
theorem dX2_angleFor_1 : decode cX2_angleFor 1 = .ok (.iload_n 1, 1) := by decide +kernel
theorem dX2_angleFor_2 : decode cX2_angleFor 2 = .ok (.invokevirtual 63, 3) := by decide +kernel
theorem dX2_angleFor_5 : decode cX2_angleFor 5 = .ok (.aload_n 0, 1) := by decide +kernel
theorem dX2_angleFor_6 : decode cX2_angleFor 6 = .ok (.getfield 10, 3) := by decide +kernel
theorem dX2_angleFor_9 : decode cX2_angleFor 9 = .ok (.aload_n 0, 1) := by decide +kernel
theorem dX2_angleFor_10 : decode cX2_angleFor 10 = .ok (.getfield 72, 3) := by decide +kernel
theorem dX2_angleFor_13 : decode cX2_angleFor 13 = .ok (.iload_n 1, 1) := by decide +kernel
theorem dX2_angleFor_14 : decode cX2_angleFor 14 = .ok (.invokevirtual 100, 3) := by decide +kernel
theorem dX2_angleFor_17 : decode cX2_angleFor 17 = .ok (.ireturn, 1) := by decide +kernel
theorem dX2_guns_0 : decode cX2_guns 0 = .ok (.aload_n 0, 1) := by decide +kernel
theorem dX2_guns_1 : decode cX2_guns 1 = .ok (.getfield 19, 3) := by decide +kernel
theorem dX2_guns_4 : decode cX2_guns 4 = .ok (.getfield 35, 3) := by decide +kernel
theorem dX2_guns_7 : decode cX2_guns 7 = .ok (.ireturn, 1) := by decide +kernel
theorem dX2_scoreOf_0 : decode cX2_scoreOf 0 = .ok (.aload_n 0, 1) := by decide +kernel
theorem dX2_scoreOf_1 : decode cX2_scoreOf 1 = .ok (.iload_n 1, 1) := by decide +kernel
theorem dX2_scoreOf_2 : decode cX2_scoreOf 2 = .ok (.invokevirtual 63, 3) := by decide +kernel
theorem dX2_scoreOf_5 : decode cX2_scoreOf 5 = .ok (.aload_n 0, 1) := by decide +kernel
theorem dX2_scoreOf_6 : decode cX2_scoreOf 6 = .ok (.getfield 19, 3) := by decide +kernel
theorem dX2_scoreOf_9 : decode cX2_scoreOf 9 = .ok (.getfield 103, 3) := by decide +kernel
theorem dX2_scoreOf_12 : decode cX2_scoreOf 12 = .ok (.iload_n 1, 1) := by decide +kernel
theorem dX2_scoreOf_13 : decode cX2_scoreOf 13 = .ok (.iaload, 1) := by decide +kernel
theorem dX2_scoreOf_14 : decode cX2_scoreOf 14 = .ok (.ireturn, 1) := by decide +kernel
theorem dX2_firstsOf_0 : decode cX2_firstsOf 0 = .ok (.aload_n 0, 1) := by decide +kernel
theorem dX2_firstsOf_1 : decode cX2_firstsOf 1 = .ok (.iload_n 1, 1) := by decide +kernel
theorem dX2_firstsOf_2 : decode cX2_firstsOf 2 = .ok (.invokevirtual 63, 3) := by decide +kernel
theorem dX2_firstsOf_5 : decode cX2_firstsOf 5 = .ok (.aload_n 0, 1) := by decide +kernel
theorem dX2_firstsOf_6 : decode cX2_firstsOf 6 = .ok (.getfield 19, 3) := by decide +kernel
theorem dX2_firstsOf_9 : decode cX2_firstsOf 9 = .ok (.getfield 106, 3) := by decide +kernel
theorem dX2_firstsOf_12 : decode cX2_firstsOf 12 = .ok (.iload_n 1, 1) := by decide +kernel
theorem dX2_firstsOf_13 : decode cX2_firstsOf 13 = .ok (.iaload, 1) := by decide +kernel
theorem dX2_firstsOf_14 : decode cX2_firstsOf 14 = .ok (.ireturn, 1) := by decide +kernel
theorem dX2_missesOf_0 : decode cX2_missesOf 0 = .ok (.aload_n 0, 1) := by decide +kernel
theorem dX2_missesOf_1 : decode cX2_missesOf 1 = .ok (.iload_n 1, 1) := by decide +kernel
theorem dX2_missesOf_2 : decode cX2_missesOf 2 = .ok (.invokevirtual 63, 3) := by decide +kernel
theorem dX2_missesOf_5 : decode cX2_missesOf 5 = .ok (.aload_n 0, 1) := by decide +kernel
theorem dX2_missesOf_6 : decode cX2_missesOf 6 = .ok (.getfield 19, 3) := by decide +kernel
theorem dX2_missesOf_9 : decode cX2_missesOf 9 = .ok (.getfield 109, 3) := by decide +kernel
theorem dX2_missesOf_12 : decode cX2_missesOf 12 = .ok (.iload_n 1, 1) := by decide +kernel
theorem dX2_missesOf_13 : decode cX2_missesOf 13 = .ok (.iaload, 1) := by decide +kernel
theorem dX2_missesOf_14 : decode cX2_missesOf 14 = .ok (.ireturn, 1) := by decide +kernel
theorem dX2_fatigueOf_0 : decode cX2_fatigueOf 0 = .ok (.aload_n 0, 1) := by decide +kernel
theorem dX2_fatigueOf_1 : decode cX2_fatigueOf 1 = .ok (.iload_n 1, 1) := by decide +kernel
theorem dX2_fatigueOf_2 : decode cX2_fatigueOf 2 = .ok (.invokevirtual 63, 3) := by decide +kernel
theorem dX2_fatigueOf_5 : decode cX2_fatigueOf 5 = .ok (.aload_n 0, 1) := by decide +kernel
theorem dX2_fatigueOf_6 : decode cX2_fatigueOf 6 = .ok (.getfield 19, 3) := by decide +kernel
theorem dX2_fatigueOf_9 : decode cX2_fatigueOf 9 = .ok (.getfield 66, 3) := by decide +kernel
theorem dX2_fatigueOf_12 : decode cX2_fatigueOf 12 = .ok (.iload_n 1, 1) := by decide +kernel
theorem dX2_fatigueOf_13 : decode cX2_fatigueOf 13 = .ok (.iaload, 1) := by decide +kernel
theorem dX2_fatigueOf_14 : decode cX2_fatigueOf 14 = .ok (.ireturn, 1) := by decide +kernel
theorem dX2_wouldHit_0 : decode cX2_wouldHit 0 = .ok (.aload_n 0, 1) := by decide +kernel
theorem dX2_wouldHit_1 : decode cX2_wouldHit 1 = .ok (.iload_n 1, 1) := by decide +kernel
theorem dX2_wouldHit_2 : decode cX2_wouldHit 2 = .ok (.invokevirtual 63, 3) := by decide +kernel
theorem dX2_wouldHit_5 : decode cX2_wouldHit 5 = .ok (.aload_n 0, 1) := by decide +kernel
theorem dX2_wouldHit_6 : decode cX2_wouldHit 6 = .ok (.getfield 19, 3) := by decide +kernel
theorem dX2_wouldHit_9 : decode cX2_wouldHit 9 = .ok (.iload_n 1, 1) := by decide +kernel
theorem dX2_wouldHit_10 : decode cX2_wouldHit 10 = .ok (.aload_n 0, 1) := by decide +kernel
theorem dX2_wouldHit_11 : decode cX2_wouldHit 11 = .ok (.getfield 10, 3) := by decide +kernel
theorem dX2_wouldHit_14 : decode cX2_wouldHit 14 = .ok (.aload_n 0, 1) := by decide +kernel
theorem dX2_wouldHit_15 : decode cX2_wouldHit 15 = .ok (.getfield 72, 3) := by decide +kernel
theorem dX2_wouldHit_18 : decode cX2_wouldHit 18 = .ok (.iload_n 1, 1) := by decide +kernel
theorem dX2_wouldHit_19 : decode cX2_wouldHit 19 = .ok (.invokevirtual 112, 3) := by decide +kernel
theorem dX2_wouldHit_22 : decode cX2_wouldHit 22 = .ok (.invokevirtual 115, 3) := by decide +kernel
theorem dX2_wouldHit_25 : decode cX2_wouldHit 25 = .ok (.ireturn, 1) := by decide +kernel
theorem dX2_leader_0 : decode cX2_leader 0 = .ok (.aload_n 0, 1) := by decide +kernel
theorem dX2_leader_1 : decode cX2_leader 1 = .ok (.getfield 19, 3) := by decide +kernel
theorem dX2_leader_4 : decode cX2_leader 4 = .ok (.invokevirtual 118, 3) := by decide +kernel
theorem dX2_leader_7 : decode cX2_leader 7 = .ok (.ireturn, 1) := by decide +kernel
theorem dX2_tied_0 : decode cX2_tied 0 = .ok (.aload_n 0, 1) := by decide +kernel
theorem dX2_tied_1 : decode cX2_tied 1 = .ok (.getfield 19, 3) := by decide +kernel
theorem dX2_tied_4 : decode cX2_tied 4 = .ok (.invokevirtual 121, 3) := by decide +kernel
theorem dX2_tied_7 : decode cX2_tied 7 = .ok (.ireturn, 1) := by decide +kernel
theorem dX2_rankOf_0 : decode cX2_rankOf 0 = .ok (.aload_n 0, 1) := by decide +kernel
theorem dX2_rankOf_1 : decode cX2_rankOf 1 = .ok (.iload_n 1, 1) := by decide +kernel
theorem dX2_rankOf_2 : decode cX2_rankOf 2 = .ok (.invokevirtual 63, 3) := by decide +kernel
theorem dX2_rankOf_5 : decode cX2_rankOf 5 = .ok (.iconst 1, 1) := by decide +kernel
theorem dX2_rankOf_6 : decode cX2_rankOf 6 = .ok (.aload_n 0, 1) := by decide +kernel
theorem dX2_rankOf_7 : decode cX2_rankOf 7 = .ok (.getfield 19, 3) := by decide +kernel
theorem dX2_rankOf_10 : decode cX2_rankOf 10 = .ok (.aload_n 0, 1) := by decide +kernel
theorem dX2_rankOf_11 : decode cX2_rankOf 11 = .ok (.getfield 19, 3) := by decide +kernel
theorem dX2_rankOf_14 : decode cX2_rankOf 14 = .ok (.getfield 103, 3) := by decide +kernel
theorem dX2_rankOf_17 : decode cX2_rankOf 17 = .ok (.iload_n 1, 1) := by decide +kernel
theorem dX2_rankOf_18 : decode cX2_rankOf 18 = .ok (.iaload, 1) := by decide +kernel
theorem dX2_rankOf_19 : decode cX2_rankOf 19 = .ok (.invokevirtual 124, 3) := by decide +kernel
theorem dX2_rankOf_22 : decode cX2_rankOf 22 = .ok (.iadd, 1) := by decide +kernel
theorem dX2_rankOf_23 : decode cX2_rankOf 23 = .ok (.ireturn, 1) := by decide +kernel
theorem dX2_scoreIn_0 : decode cX2_scoreIn 0 = .ok (.aload_n 0, 1) := by decide +kernel
theorem dX2_scoreIn_1 : decode cX2_scoreIn 1 = .ok (.iload_n 1, 1) := by decide +kernel
theorem dX2_scoreIn_2 : decode cX2_scoreIn 2 = .ok (.invokevirtual 63, 3) := by decide +kernel
theorem dX2_scoreIn_5 : decode cX2_scoreIn 5 = .ok (.iload_n 2, 1) := by decide +kernel
theorem dX2_scoreIn_6 : decode cX2_scoreIn 6 = .ok (.invokestatic 69, 3) := by decide +kernel
theorem dX2_scoreIn_9 : decode cX2_scoreIn 9 = .ok (.aload_n 0, 1) := by decide +kernel
theorem dX2_scoreIn_10 : decode cX2_scoreIn 10 = .ok (.getfield 23, 3) := by decide +kernel
theorem dX2_scoreIn_13 : decode cX2_scoreIn 13 = .ok (.aload_n 0, 1) := by decide +kernel
theorem dX2_scoreIn_14 : decode cX2_scoreIn 14 = .ok (.getfield 19, 3) := by decide +kernel
theorem dX2_scoreIn_17 : decode cX2_scoreIn 17 = .ok (.invokevirtual 127, 3) := by decide +kernel
theorem dX2_scoreIn_20 : decode cX2_scoreIn 20 = .ok (.aload_n 0, 1) := by decide +kernel
theorem dX2_scoreIn_21 : decode cX2_scoreIn 21 = .ok (.getfield 23, 3) := by decide +kernel
theorem dX2_scoreIn_24 : decode cX2_scoreIn 24 = .ok (.aload_n 0, 1) := by decide +kernel
theorem dX2_scoreIn_25 : decode cX2_scoreIn 25 = .ok (.getfield 10, 3) := by decide +kernel
theorem dX2_scoreIn_28 : decode cX2_scoreIn 28 = .ok (.iload_n 1, 1) := by decide +kernel
theorem dX2_scoreIn_29 : decode cX2_scoreIn 29 = .ok (.aload_n 0, 1) := by decide +kernel
theorem dX2_scoreIn_30 : decode cX2_scoreIn 30 = .ok (.getfield 72, 3) := by decide +kernel
theorem dX2_scoreIn_33 : decode cX2_scoreIn 33 = .ok (.iload_n 2, 1) := by decide +kernel
theorem dX2_scoreIn_34 : decode cX2_scoreIn 34 = .ok (.invokevirtual 131, 3) := by decide +kernel
theorem dX2_scoreIn_37 : decode cX2_scoreIn 37 = .ok (.aload_n 0, 1) := by decide +kernel
theorem dX2_scoreIn_38 : decode cX2_scoreIn 38 = .ok (.getfield 23, 3) := by decide +kernel
theorem dX2_scoreIn_41 : decode cX2_scoreIn 41 = .ok (.getfield 103, 3) := by decide +kernel
theorem dX2_scoreIn_44 : decode cX2_scoreIn 44 = .ok (.iload_n 1, 1) := by decide +kernel
theorem dX2_scoreIn_45 : decode cX2_scoreIn 45 = .ok (.iaload, 1) := by decide +kernel
theorem dX2_scoreIn_46 : decode cX2_scoreIn 46 = .ok (.ireturn, 1) := by decide +kernel
theorem dX2_turnsUntilMiss_0 : decode cX2_turnsUntilMiss 0 = .ok (.aload_n 0, 1) := by decide +kernel
theorem dX2_turnsUntilMiss_1 : decode cX2_turnsUntilMiss 1 = .ok (.iload_n 1, 1) := by decide +kernel
theorem dX2_turnsUntilMiss_2 : decode cX2_turnsUntilMiss 2 = .ok (.invokevirtual 63, 3) := by decide +kernel
theorem dX2_turnsUntilMiss_5 : decode cX2_turnsUntilMiss 5 = .ok (.iconst 0, 1) := by decide +kernel
theorem dX2_turnsUntilMiss_6 : decode cX2_turnsUntilMiss 6 = .ok (.istore_n 2, 1) := by decide +kernel
theorem dX2_turnsUntilMiss_7 : decode cX2_turnsUntilMiss 7 = .ok (.iload_n 2, 1) := by decide +kernel
theorem dX2_turnsUntilMiss_8 : decode cX2_turnsUntilMiss 8 = .ok (.bipush 100, 2) := by decide +kernel
theorem dX2_turnsUntilMiss_10 : decode cX2_turnsUntilMiss 10 = .ok (.if_icmp .ge 39, 3) := by decide +kernel
theorem dX2_turnsUntilMiss_13 : decode cX2_turnsUntilMiss 13 = .ok (.aload_n 0, 1) := by decide +kernel
theorem dX2_turnsUntilMiss_14 : decode cX2_turnsUntilMiss 14 = .ok (.getfield 10, 3) := by decide +kernel
theorem dX2_turnsUntilMiss_17 : decode cX2_turnsUntilMiss 17 = .ok (.aload_n 0, 1) := by decide +kernel
theorem dX2_turnsUntilMiss_18 : decode cX2_turnsUntilMiss 18 = .ok (.getfield 72, 3) := by decide +kernel
theorem dX2_turnsUntilMiss_21 : decode cX2_turnsUntilMiss 21 = .ok (.iload_n 2, 1) := by decide +kernel
theorem dX2_turnsUntilMiss_22 : decode cX2_turnsUntilMiss 22 = .ok (.iadd, 1) := by decide +kernel
theorem dX2_turnsUntilMiss_23 : decode cX2_turnsUntilMiss 23 = .ok (.iload_n 1, 1) := by decide +kernel
theorem dX2_turnsUntilMiss_24 : decode cX2_turnsUntilMiss 24 = .ok (.invokevirtual 112, 3) := by decide +kernel
theorem dX2_turnsUntilMiss_27 : decode cX2_turnsUntilMiss 27 = .ok (.aload_n 0, 1) := by decide +kernel
theorem dX2_turnsUntilMiss_28 : decode cX2_turnsUntilMiss 28 = .ok (.getfield 19, 3) := by decide +kernel
theorem dX2_turnsUntilMiss_31 : decode cX2_turnsUntilMiss 31 = .ok (.getfield 135, 3) := by decide +kernel
theorem dX2_turnsUntilMiss_34 : decode cX2_turnsUntilMiss 34 = .ok (.iload_n 1, 1) := by decide +kernel
theorem dX2_turnsUntilMiss_35 : decode cX2_turnsUntilMiss 35 = .ok (.iaload, 1) := by decide +kernel
theorem dX2_turnsUntilMiss_36 : decode cX2_turnsUntilMiss 36 = .ok (.if_icmp .le 7, 3) := by decide +kernel
theorem dX2_turnsUntilMiss_39 : decode cX2_turnsUntilMiss 39 = .ok (.iload_n 2, 1) := by decide +kernel
theorem dX2_turnsUntilMiss_40 : decode cX2_turnsUntilMiss 40 = .ok (.iconst 1, 1) := by decide +kernel
theorem dX2_turnsUntilMiss_41 : decode cX2_turnsUntilMiss 41 = .ok (.iadd, 1) := by decide +kernel
theorem dX2_turnsUntilMiss_42 : decode cX2_turnsUntilMiss 42 = .ok (.ireturn, 1) := by decide +kernel
theorem dX2_turnsUntilMiss_43 : decode cX2_turnsUntilMiss 43 = .ok (.iinc 2 1, 3) := by decide +kernel
theorem dX2_turnsUntilMiss_46 : decode cX2_turnsUntilMiss 46 = .ok (.goto (-39), 3) := by decide +kernel
theorem dX2_turnsUntilMiss_49 : decode cX2_turnsUntilMiss 49 = .ok (.iconst (-1), 1) := by decide +kernel
theorem dX2_turnsUntilMiss_50 : decode cX2_turnsUntilMiss 50 = .ok (.ireturn, 1) := by decide +kernel
theorem dX2_leaderIn_0 : decode cX2_leaderIn 0 = .ok (.iload_n 1, 1) := by decide +kernel
theorem dX2_leaderIn_1 : decode cX2_leaderIn 1 = .ok (.invokestatic 69, 3) := by decide +kernel
theorem dX2_leaderIn_4 : decode cX2_leaderIn 4 = .ok (.aload_n 0, 1) := by decide +kernel
theorem dX2_leaderIn_5 : decode cX2_leaderIn 5 = .ok (.getfield 23, 3) := by decide +kernel
theorem dX2_leaderIn_8 : decode cX2_leaderIn 8 = .ok (.aload_n 0, 1) := by decide +kernel
theorem dX2_leaderIn_9 : decode cX2_leaderIn 9 = .ok (.getfield 19, 3) := by decide +kernel
theorem dX2_leaderIn_12 : decode cX2_leaderIn 12 = .ok (.invokevirtual 127, 3) := by decide +kernel
theorem dX2_leaderIn_15 : decode cX2_leaderIn 15 = .ok (.aload_n 0, 1) := by decide +kernel
theorem dX2_leaderIn_16 : decode cX2_leaderIn 16 = .ok (.getfield 23, 3) := by decide +kernel
theorem dX2_leaderIn_19 : decode cX2_leaderIn 19 = .ok (.aload_n 0, 1) := by decide +kernel
theorem dX2_leaderIn_20 : decode cX2_leaderIn 20 = .ok (.getfield 10, 3) := by decide +kernel
theorem dX2_leaderIn_23 : decode cX2_leaderIn 23 = .ok (.aload_n 0, 1) := by decide +kernel
theorem dX2_leaderIn_24 : decode cX2_leaderIn 24 = .ok (.getfield 72, 3) := by decide +kernel
theorem dX2_leaderIn_27 : decode cX2_leaderIn 27 = .ok (.iload_n 1, 1) := by decide +kernel
theorem dX2_leaderIn_28 : decode cX2_leaderIn 28 = .ok (.invokevirtual 75, 3) := by decide +kernel
theorem dX2_leaderIn_31 : decode cX2_leaderIn 31 = .ok (.pop, 1) := by decide +kernel
theorem dX2_leaderIn_32 : decode cX2_leaderIn 32 = .ok (.aload_n 0, 1) := by decide +kernel
theorem dX2_leaderIn_33 : decode cX2_leaderIn 33 = .ok (.getfield 23, 3) := by decide +kernel
theorem dX2_leaderIn_36 : decode cX2_leaderIn 36 = .ok (.invokevirtual 118, 3) := by decide +kernel
theorem dX2_leaderIn_39 : decode cX2_leaderIn 39 = .ok (.ireturn, 1) := by decide +kernel
theorem dX2_wouldWin_0 : decode cX2_wouldWin 0 = .ok (.aload_n 0, 1) := by decide +kernel
theorem dX2_wouldWin_1 : decode cX2_wouldWin 1 = .ok (.getfield 23, 3) := by decide +kernel
theorem dX2_wouldWin_4 : decode cX2_wouldWin 4 = .ok (.aload_n 0, 1) := by decide +kernel
theorem dX2_wouldWin_5 : decode cX2_wouldWin 5 = .ok (.getfield 19, 3) := by decide +kernel
theorem dX2_wouldWin_8 : decode cX2_wouldWin 8 = .ok (.invokevirtual 127, 3) := by decide +kernel
theorem dX2_wouldWin_11 : decode cX2_wouldWin 11 = .ok (.aload_n 0, 1) := by decide +kernel
theorem dX2_wouldWin_12 : decode cX2_wouldWin 12 = .ok (.getfield 23, 3) := by decide +kernel
theorem dX2_wouldWin_15 : decode cX2_wouldWin 15 = .ok (.invokevirtual 81, 3) := by decide +kernel
theorem dX2_wouldWin_18 : decode cX2_wouldWin 18 = .ok (.ireturn, 1) := by decide +kernel
theorem dX2_bestRest_0 : decode cX2_bestRest 0 = .ok (.aload_n 0, 1) := by decide +kernel
theorem dX2_bestRest_1 : decode cX2_bestRest 1 = .ok (.iload_n 1, 1) := by decide +kernel
theorem dX2_bestRest_2 : decode cX2_bestRest 2 = .ok (.invokevirtual 63, 3) := by decide +kernel
theorem dX2_bestRest_5 : decode cX2_bestRest 5 = .ok (.iconst 0, 1) := by decide +kernel
theorem dX2_bestRest_6 : decode cX2_bestRest 6 = .ok (.istore_n 2, 1) := by decide +kernel
theorem dX2_bestRest_7 : decode cX2_bestRest 7 = .ok (.aload_n 0, 1) := by decide +kernel
theorem dX2_bestRest_8 : decode cX2_bestRest 8 = .ok (.iload_n 1, 1) := by decide +kernel
theorem dX2_bestRest_9 : decode cX2_bestRest 9 = .ok (.iconst 0, 1) := by decide +kernel
theorem dX2_bestRest_10 : decode cX2_bestRest 10 = .ok (.invokevirtual 138, 3) := by decide +kernel
theorem dX2_bestRest_13 : decode cX2_bestRest 13 = .ok (.istore_n 3, 1) := by decide +kernel
theorem dX2_bestRest_14 : decode cX2_bestRest 14 = .ok (.iconst 1, 1) := by decide +kernel
theorem dX2_bestRest_15 : decode cX2_bestRest 15 = .ok (.istore 4, 2) := by decide +kernel
theorem dX2_bestRest_17 : decode cX2_bestRest 17 = .ok (.iload 4, 2) := by decide +kernel
theorem dX2_bestRest_19 : decode cX2_bestRest 19 = .ok (.bipush 20, 2) := by decide +kernel
theorem dX2_bestRest_21 : decode cX2_bestRest 21 = .ok (.if_icmp .gt 30, 3) := by decide +kernel
theorem dX2_bestRest_24 : decode cX2_bestRest 24 = .ok (.aload_n 0, 1) := by decide +kernel
theorem dX2_bestRest_25 : decode cX2_bestRest 25 = .ok (.iload_n 1, 1) := by decide +kernel
theorem dX2_bestRest_26 : decode cX2_bestRest 26 = .ok (.iload 4, 2) := by decide +kernel
theorem dX2_bestRest_28 : decode cX2_bestRest 28 = .ok (.invokevirtual 138, 3) := by decide +kernel
theorem dX2_bestRest_31 : decode cX2_bestRest 31 = .ok (.istore 5, 2) := by decide +kernel
theorem dX2_bestRest_33 : decode cX2_bestRest 33 = .ok (.iload 5, 2) := by decide +kernel
theorem dX2_bestRest_35 : decode cX2_bestRest 35 = .ok (.iload_n 3, 1) := by decide +kernel
theorem dX2_bestRest_36 : decode cX2_bestRest 36 = .ok (.if_icmp .le 9, 3) := by decide +kernel
theorem dX2_bestRest_39 : decode cX2_bestRest 39 = .ok (.iload 4, 2) := by decide +kernel
theorem dX2_bestRest_41 : decode cX2_bestRest 41 = .ok (.istore_n 2, 1) := by decide +kernel
theorem dX2_bestRest_42 : decode cX2_bestRest 42 = .ok (.iload 5, 2) := by decide +kernel
theorem dX2_bestRest_44 : decode cX2_bestRest 44 = .ok (.istore_n 3, 1) := by decide +kernel
theorem dX2_bestRest_45 : decode cX2_bestRest 45 = .ok (.iinc 4 1, 3) := by decide +kernel
theorem dX2_bestRest_48 : decode cX2_bestRest 48 = .ok (.goto (-31), 3) := by decide +kernel
theorem dX2_bestRest_51 : decode cX2_bestRest 51 = .ok (.iload_n 2, 1) := by decide +kernel
theorem dX2_bestRest_52 : decode cX2_bestRest 52 = .ok (.ireturn, 1) := by decide +kernel
theorem dX2_swingWanted_0 : decode cX2_swingWanted 0 = .ok (.aload_n 0, 1) := by decide +kernel
theorem dX2_swingWanted_1 : decode cX2_swingWanted 1 = .ok (.iload_n 1, 1) := by decide +kernel
theorem dX2_swingWanted_2 : decode cX2_swingWanted 2 = .ok (.invokevirtual 63, 3) := by decide +kernel
theorem dX2_swingWanted_5 : decode cX2_swingWanted 5 = .ok (.iconst 5, 1) := by decide +kernel
theorem dX2_swingWanted_6 : decode cX2_swingWanted 6 = .ok (.aload_n 0, 1) := by decide +kernel
theorem dX2_swingWanted_7 : decode cX2_swingWanted 7 = .ok (.getfield 10, 3) := by decide +kernel
theorem dX2_swingWanted_10 : decode cX2_swingWanted 10 = .ok (.invokevirtual 141, 3) := by decide +kernel
theorem dX2_swingWanted_13 : decode cX2_swingWanted 13 = .ok (.invokestatic 144, 3) := by decide +kernel
theorem dX2_swingWanted_16 : decode cX2_swingWanted 16 = .ok (.istore_n 2, 1) := by decide +kernel
theorem dX2_swingWanted_17 : decode cX2_swingWanted 17 = .ok (.iload_n 2, 1) := by decide +kernel
theorem dX2_swingWanted_18 : decode cX2_swingWanted 18 = .ok (.bipush 60, 2) := by decide +kernel
theorem dX2_swingWanted_20 : decode cX2_swingWanted 20 = .ok (.if_icmp .le 7, 3) := by decide +kernel
theorem dX2_swingWanted_23 : decode cX2_swingWanted 23 = .ok (.iconst (-1), 1) := by decide +kernel
theorem dX2_swingWanted_24 : decode cX2_swingWanted 24 = .ok (.goto 4, 3) := by decide +kernel
theorem dX2_swingWanted_27 : decode cX2_swingWanted 27 = .ok (.iload_n 2, 1) := by decide +kernel
theorem dX2_swingWanted_28 : decode cX2_swingWanted 28 = .ok (.ireturn, 1) := by decide +kernel
theorem dX2_meanScore_0 : decode cX2_meanScore 0 = .ok (.aload_n 0, 1) := by decide +kernel
theorem dX2_meanScore_1 : decode cX2_meanScore 1 = .ok (.getfield 19, 3) := by decide +kernel
theorem dX2_meanScore_4 : decode cX2_meanScore 4 = .ok (.getfield 35, 3) := by decide +kernel
theorem dX2_meanScore_7 : decode cX2_meanScore 7 = .ok (.ifCond .ne 5, 3) := by decide +kernel
theorem dX2_meanScore_10 : decode cX2_meanScore 10 = .ok (.dconst 0, 1) := by decide +kernel
theorem dX2_meanScore_11 : decode cX2_meanScore 11 = .ok (.dreturn, 1) := by decide +kernel
theorem dX2_meanScore_12 : decode cX2_meanScore 12 = .ok (.aload_n 0, 1) := by decide +kernel
theorem dX2_meanScore_13 : decode cX2_meanScore 13 = .ok (.getfield 19, 3) := by decide +kernel
theorem dX2_meanScore_16 : decode cX2_meanScore 16 = .ok (.invokevirtual 149, 3) := by decide +kernel
theorem dX2_meanScore_19 : decode cX2_meanScore 19 = .ok (.i2d, 1) := by decide +kernel
theorem dX2_meanScore_20 : decode cX2_meanScore 20 = .ok (.aload_n 0, 1) := by decide +kernel
theorem dX2_meanScore_21 : decode cX2_meanScore 21 = .ok (.getfield 19, 3) := by decide +kernel
theorem dX2_meanScore_24 : decode cX2_meanScore 24 = .ok (.getfield 35, 3) := by decide +kernel
theorem dX2_meanScore_27 : decode cX2_meanScore 27 = .ok (.i2d, 1) := by decide +kernel
theorem dX2_meanScore_28 : decode cX2_meanScore 28 = .ok (.ddiv, 1) := by decide +kernel
theorem dX2_meanScore_29 : decode cX2_meanScore 29 = .ok (.dreturn, 1) := by decide +kernel
theorem dX2_digest_0 : decode cX2_digest 0 = .ok (.ldc2_w 152, 3) := by decide +kernel
theorem dX2_digest_3 : decode cX2_digest 3 = .ok (.lstore_n 1, 1) := by decide +kernel
theorem dX2_digest_4 : decode cX2_digest 4 = .ok (.lload_n 1, 1) := by decide +kernel
theorem dX2_digest_5 : decode cX2_digest 5 = .ok (.aload_n 0, 1) := by decide +kernel
theorem dX2_digest_6 : decode cX2_digest 6 = .ok (.invokevirtual 154, 3) := by decide +kernel
theorem dX2_digest_9 : decode cX2_digest 9 = .ok (.i2l, 1) := by decide +kernel
theorem dX2_digest_10 : decode cX2_digest 10 = .ok (.invokestatic 156, 3) := by decide +kernel
theorem dX2_digest_13 : decode cX2_digest 13 = .ok (.lstore_n 1, 1) := by decide +kernel
theorem dX2_digest_14 : decode cX2_digest 14 = .ok (.lload_n 1, 1) := by decide +kernel
theorem dX2_digest_15 : decode cX2_digest 15 = .ok (.aload_n 0, 1) := by decide +kernel
theorem dX2_digest_16 : decode cX2_digest 16 = .ok (.invokevirtual 160, 3) := by decide +kernel
theorem dX2_digest_19 : decode cX2_digest 19 = .ok (.i2l, 1) := by decide +kernel
theorem dX2_digest_20 : decode cX2_digest 20 = .ok (.invokestatic 156, 3) := by decide +kernel
theorem dX2_digest_23 : decode cX2_digest 23 = .ok (.lstore_n 1, 1) := by decide +kernel
theorem dX2_digest_24 : decode cX2_digest 24 = .ok (.lload_n 1, 1) := by decide +kernel
theorem dX2_digest_25 : decode cX2_digest 25 = .ok (.aload_n 0, 1) := by decide +kernel
theorem dX2_digest_26 : decode cX2_digest 26 = .ok (.invokevirtual 163, 3) := by decide +kernel
theorem dX2_digest_29 : decode cX2_digest 29 = .ok (.i2l, 1) := by decide +kernel
theorem dX2_digest_30 : decode cX2_digest 30 = .ok (.invokestatic 156, 3) := by decide +kernel
theorem dX2_digest_33 : decode cX2_digest 33 = .ok (.lstore_n 1, 1) := by decide +kernel
theorem dX2_digest_34 : decode cX2_digest 34 = .ok (.lload_n 1, 1) := by decide +kernel
theorem dX2_digest_35 : decode cX2_digest 35 = .ok (.aload_n 0, 1) := by decide +kernel
theorem dX2_digest_36 : decode cX2_digest 36 = .ok (.invokevirtual 166, 3) := by decide +kernel
theorem dX2_digest_39 : decode cX2_digest 39 = .ok (.i2l, 1) := by decide +kernel
theorem dX2_digest_40 : decode cX2_digest 40 = .ok (.invokestatic 156, 3) := by decide +kernel
theorem dX2_digest_43 : decode cX2_digest 43 = .ok (.lstore_n 1, 1) := by decide +kernel
theorem dX2_digest_44 : decode cX2_digest 44 = .ok (.lload_n 1, 1) := by decide +kernel
theorem dX2_digest_45 : decode cX2_digest 45 = .ok (.aload_n 0, 1) := by decide +kernel
theorem dX2_digest_46 : decode cX2_digest 46 = .ok (.invokevirtual 169, 3) := by decide +kernel
theorem dX2_digest_49 : decode cX2_digest 49 = .ok (.i2l, 1) := by decide +kernel
theorem dX2_digest_50 : decode cX2_digest 50 = .ok (.invokestatic 156, 3) := by decide +kernel
theorem dX2_digest_53 : decode cX2_digest 53 = .ok (.lstore_n 1, 1) := by decide +kernel
theorem dX2_digest_54 : decode cX2_digest 54 = .ok (.lload_n 1, 1) := by decide +kernel
theorem dX2_digest_55 : decode cX2_digest 55 = .ok (.aload_n 0, 1) := by decide +kernel
theorem dX2_digest_56 : decode cX2_digest 56 = .ok (.bipush 25, 2) := by decide +kernel
theorem dX2_digest_58 : decode cX2_digest 58 = .ok (.invokevirtual 172, 3) := by decide +kernel
theorem dX2_digest_61 : decode cX2_digest 61 = .ok (.i2l, 1) := by decide +kernel
theorem dX2_digest_62 : decode cX2_digest 62 = .ok (.invokestatic 156, 3) := by decide +kernel
theorem dX2_digest_65 : decode cX2_digest 65 = .ok (.lstore_n 1, 1) := by decide +kernel
theorem dX2_digest_66 : decode cX2_digest 66 = .ok (.iconst 0, 1) := by decide +kernel
theorem dX2_digest_67 : decode cX2_digest 67 = .ok (.istore_n 3, 1) := by decide +kernel
theorem dX2_digest_68 : decode cX2_digest 68 = .ok (.iload_n 3, 1) := by decide +kernel
theorem dX2_digest_69 : decode cX2_digest 69 = .ok (.iconst 5, 1) := by decide +kernel
theorem dX2_digest_70 : decode cX2_digest 70 = .ok (.if_icmp .ge 48, 3) := by decide +kernel
theorem dX2_digest_73 : decode cX2_digest 73 = .ok (.iconst 0, 1) := by decide +kernel
theorem dX2_digest_74 : decode cX2_digest 74 = .ok (.istore 4, 2) := by decide +kernel
theorem dX2_digest_76 : decode cX2_digest 76 = .ok (.iload 4, 2) := by decide +kernel
theorem dX2_digest_78 : decode cX2_digest 78 = .ok (.iconst 5, 1) := by decide +kernel
theorem dX2_digest_79 : decode cX2_digest 79 = .ok (.if_icmp .ge 22, 3) := by decide +kernel
theorem dX2_digest_82 : decode cX2_digest 82 = .ok (.lload_n 1, 1) := by decide +kernel
theorem dX2_digest_83 : decode cX2_digest 83 = .ok (.aload_n 0, 1) := by decide +kernel
theorem dX2_digest_84 : decode cX2_digest 84 = .ok (.iload_n 3, 1) := by decide +kernel
theorem dX2_digest_85 : decode cX2_digest 85 = .ok (.iload 4, 2) := by decide +kernel
theorem dX2_digest_87 : decode cX2_digest 87 = .ok (.invokevirtual 175, 3) := by decide +kernel
theorem dX2_digest_90 : decode cX2_digest 90 = .ok (.i2l, 1) := by decide +kernel
theorem dX2_digest_91 : decode cX2_digest 91 = .ok (.invokestatic 156, 3) := by decide +kernel
theorem dX2_digest_94 : decode cX2_digest 94 = .ok (.lstore_n 1, 1) := by decide +kernel
theorem dX2_digest_95 : decode cX2_digest 95 = .ok (.iinc 4 1, 3) := by decide +kernel
theorem dX2_digest_98 : decode cX2_digest 98 = .ok (.goto (-22), 3) := by decide +kernel
theorem dX2_digest_101 : decode cX2_digest 101 = .ok (.lload_n 1, 1) := by decide +kernel
theorem dX2_digest_102 : decode cX2_digest 102 = .ok (.aload_n 0, 1) := by decide +kernel
theorem dX2_digest_103 : decode cX2_digest 103 = .ok (.iload_n 3, 1) := by decide +kernel
theorem dX2_digest_104 : decode cX2_digest 104 = .ok (.invokevirtual 178, 3) := by decide +kernel
theorem dX2_digest_107 : decode cX2_digest 107 = .ok (.i2l, 1) := by decide +kernel
theorem dX2_digest_108 : decode cX2_digest 108 = .ok (.invokestatic 156, 3) := by decide +kernel
theorem dX2_digest_111 : decode cX2_digest 111 = .ok (.lstore_n 1, 1) := by decide +kernel
theorem dX2_digest_112 : decode cX2_digest 112 = .ok (.iinc 3 1, 3) := by decide +kernel
theorem dX2_digest_115 : decode cX2_digest 115 = .ok (.goto (-47), 3) := by decide +kernel
theorem dX2_digest_118 : decode cX2_digest 118 = .ok (.iconst 0, 1) := by decide +kernel
theorem dX2_digest_119 : decode cX2_digest 119 = .ok (.istore_n 3, 1) := by decide +kernel
theorem dX2_digest_120 : decode cX2_digest 120 = .ok (.iload_n 3, 1) := by decide +kernel
theorem dX2_digest_121 : decode cX2_digest 121 = .ok (.aload_n 0, 1) := by decide +kernel
theorem dX2_digest_122 : decode cX2_digest 122 = .ok (.getfield 19, 3) := by decide +kernel
theorem dX2_digest_125 : decode cX2_digest 125 = .ok (.getfield 35, 3) := by decide +kernel
theorem dX2_digest_128 : decode cX2_digest 128 = .ok (.if_icmp .ge 119, 3) := by decide +kernel
theorem dX2_digest_131 : decode cX2_digest 131 = .ok (.lload_n 1, 1) := by decide +kernel
theorem dX2_digest_132 : decode cX2_digest 132 = .ok (.aload_n 0, 1) := by decide +kernel
theorem dX2_digest_133 : decode cX2_digest 133 = .ok (.iload_n 3, 1) := by decide +kernel
theorem dX2_digest_134 : decode cX2_digest 134 = .ok (.invokevirtual 181, 3) := by decide +kernel
theorem dX2_digest_137 : decode cX2_digest 137 = .ok (.i2l, 1) := by decide +kernel
theorem dX2_digest_138 : decode cX2_digest 138 = .ok (.invokestatic 156, 3) := by decide +kernel
theorem dX2_digest_141 : decode cX2_digest 141 = .ok (.lstore_n 1, 1) := by decide +kernel
theorem dX2_digest_142 : decode cX2_digest 142 = .ok (.lload_n 1, 1) := by decide +kernel
theorem dX2_digest_143 : decode cX2_digest 143 = .ok (.aload_n 0, 1) := by decide +kernel
theorem dX2_digest_144 : decode cX2_digest 144 = .ok (.iload_n 3, 1) := by decide +kernel
theorem dX2_digest_145 : decode cX2_digest 145 = .ok (.invokevirtual 184, 3) := by decide +kernel
theorem dX2_digest_148 : decode cX2_digest 148 = .ok (.i2l, 1) := by decide +kernel
theorem dX2_digest_149 : decode cX2_digest 149 = .ok (.invokestatic 156, 3) := by decide +kernel
theorem dX2_digest_152 : decode cX2_digest 152 = .ok (.lstore_n 1, 1) := by decide +kernel
theorem dX2_digest_153 : decode cX2_digest 153 = .ok (.lload_n 1, 1) := by decide +kernel
theorem dX2_digest_154 : decode cX2_digest 154 = .ok (.aload_n 0, 1) := by decide +kernel
theorem dX2_digest_155 : decode cX2_digest 155 = .ok (.iload_n 3, 1) := by decide +kernel
theorem dX2_digest_156 : decode cX2_digest 156 = .ok (.invokevirtual 187, 3) := by decide +kernel
theorem dX2_digest_159 : decode cX2_digest 159 = .ok (.i2l, 1) := by decide +kernel
theorem dX2_digest_160 : decode cX2_digest 160 = .ok (.invokestatic 156, 3) := by decide +kernel
theorem dX2_digest_163 : decode cX2_digest 163 = .ok (.lstore_n 1, 1) := by decide +kernel
theorem dX2_digest_164 : decode cX2_digest 164 = .ok (.lload_n 1, 1) := by decide +kernel
theorem dX2_digest_165 : decode cX2_digest 165 = .ok (.aload_n 0, 1) := by decide +kernel
theorem dX2_digest_166 : decode cX2_digest 166 = .ok (.iload_n 3, 1) := by decide +kernel
theorem dX2_digest_167 : decode cX2_digest 167 = .ok (.invokevirtual 190, 3) := by decide +kernel
theorem dX2_digest_170 : decode cX2_digest 170 = .ok (.i2l, 1) := by decide +kernel
theorem dX2_digest_171 : decode cX2_digest 171 = .ok (.invokestatic 156, 3) := by decide +kernel
theorem dX2_digest_174 : decode cX2_digest 174 = .ok (.lstore_n 1, 1) := by decide +kernel
theorem dX2_digest_175 : decode cX2_digest 175 = .ok (.lload_n 1, 1) := by decide +kernel
theorem dX2_digest_176 : decode cX2_digest 176 = .ok (.aload_n 0, 1) := by decide +kernel
theorem dX2_digest_177 : decode cX2_digest 177 = .ok (.iload_n 3, 1) := by decide +kernel
theorem dX2_digest_178 : decode cX2_digest 178 = .ok (.invokevirtual 193, 3) := by decide +kernel
theorem dX2_digest_181 : decode cX2_digest 181 = .ok (.i2l, 1) := by decide +kernel
theorem dX2_digest_182 : decode cX2_digest 182 = .ok (.invokestatic 156, 3) := by decide +kernel
theorem dX2_digest_185 : decode cX2_digest 185 = .ok (.lstore_n 1, 1) := by decide +kernel
theorem dX2_digest_186 : decode cX2_digest 186 = .ok (.lload_n 1, 1) := by decide +kernel
theorem dX2_digest_187 : decode cX2_digest 187 = .ok (.aload_n 0, 1) := by decide +kernel
theorem dX2_digest_188 : decode cX2_digest 188 = .ok (.iload_n 3, 1) := by decide +kernel
theorem dX2_digest_189 : decode cX2_digest 189 = .ok (.invokevirtual 196, 3) := by decide +kernel
theorem dX2_digest_192 : decode cX2_digest 192 = .ok (.i2l, 1) := by decide +kernel
theorem dX2_digest_193 : decode cX2_digest 193 = .ok (.invokestatic 156, 3) := by decide +kernel
theorem dX2_digest_196 : decode cX2_digest 196 = .ok (.lstore_n 1, 1) := by decide +kernel
theorem dX2_digest_197 : decode cX2_digest 197 = .ok (.lload_n 1, 1) := by decide +kernel
theorem dX2_digest_198 : decode cX2_digest 198 = .ok (.aload_n 0, 1) := by decide +kernel
theorem dX2_digest_199 : decode cX2_digest 199 = .ok (.iload_n 3, 1) := by decide +kernel
theorem dX2_digest_200 : decode cX2_digest 200 = .ok (.invokevirtual 199, 3) := by decide +kernel
theorem dX2_digest_203 : decode cX2_digest 203 = .ok (.i2l, 1) := by decide +kernel
theorem dX2_digest_204 : decode cX2_digest 204 = .ok (.invokestatic 156, 3) := by decide +kernel
theorem dX2_digest_207 : decode cX2_digest 207 = .ok (.lstore_n 1, 1) := by decide +kernel
theorem dX2_digest_208 : decode cX2_digest 208 = .ok (.lload_n 1, 1) := by decide +kernel
theorem dX2_digest_209 : decode cX2_digest 209 = .ok (.aload_n 0, 1) := by decide +kernel
theorem dX2_digest_210 : decode cX2_digest 210 = .ok (.iload_n 3, 1) := by decide +kernel
theorem dX2_digest_211 : decode cX2_digest 211 = .ok (.invokevirtual 202, 3) := by decide +kernel
theorem dX2_digest_214 : decode cX2_digest 214 = .ok (.i2l, 1) := by decide +kernel
theorem dX2_digest_215 : decode cX2_digest 215 = .ok (.invokestatic 156, 3) := by decide +kernel
theorem dX2_digest_218 : decode cX2_digest 218 = .ok (.lstore_n 1, 1) := by decide +kernel
theorem dX2_digest_219 : decode cX2_digest 219 = .ok (.lload_n 1, 1) := by decide +kernel
theorem dX2_digest_220 : decode cX2_digest 220 = .ok (.aload_n 0, 1) := by decide +kernel
theorem dX2_digest_221 : decode cX2_digest 221 = .ok (.iload_n 3, 1) := by decide +kernel
theorem dX2_digest_222 : decode cX2_digest 222 = .ok (.invokevirtual 205, 3) := by decide +kernel
theorem dX2_digest_225 : decode cX2_digest 225 = .ok (.i2l, 1) := by decide +kernel
theorem dX2_digest_226 : decode cX2_digest 226 = .ok (.invokestatic 156, 3) := by decide +kernel
theorem dX2_digest_229 : decode cX2_digest 229 = .ok (.lstore_n 1, 1) := by decide +kernel
theorem dX2_digest_230 : decode cX2_digest 230 = .ok (.lload_n 1, 1) := by decide +kernel
theorem dX2_digest_231 : decode cX2_digest 231 = .ok (.aload_n 0, 1) := by decide +kernel
theorem dX2_digest_232 : decode cX2_digest 232 = .ok (.iload_n 3, 1) := by decide +kernel
theorem dX2_digest_233 : decode cX2_digest 233 = .ok (.invokevirtual 208, 3) := by decide +kernel
theorem dX2_digest_236 : decode cX2_digest 236 = .ok (.i2l, 1) := by decide +kernel
theorem dX2_digest_237 : decode cX2_digest 237 = .ok (.invokestatic 156, 3) := by decide +kernel
theorem dX2_digest_240 : decode cX2_digest 240 = .ok (.lstore_n 1, 1) := by decide +kernel
theorem dX2_digest_241 : decode cX2_digest 241 = .ok (.iinc 3 1, 3) := by decide +kernel
theorem dX2_digest_244 : decode cX2_digest 244 = .ok (.goto (-124), 3) := by decide +kernel
theorem dX2_digest_247 : decode cX2_digest 247 = .ok (.lload_n 1, 1) := by decide +kernel
theorem dX2_digest_248 : decode cX2_digest 248 = .ok (.lreturn, 1) := by decide +kernel
theorem dX2_checkStand_0 : decode cX2_checkStand 0 = .ok (.iload_n 0, 1) := by decide +kernel
theorem dX2_checkStand_1 : decode cX2_checkStand 1 = .ok (.ifCond .lt 8, 3) := by decide +kernel
theorem dX2_checkStand_4 : decode cX2_checkStand 4 = .ok (.iload_n 0, 1) := by decide +kernel
theorem dX2_checkStand_5 : decode cX2_checkStand 5 = .ok (.iconst 5, 1) := by decide +kernel
theorem dX2_checkStand_6 : decode cX2_checkStand 6 = .ok (.if_icmp .lt 13, 3) := by decide +kernel
theorem dX2_checkStand_9 : decode cX2_checkStand 9 = .ok (.new 85, 3) := by decide +kernel
theorem dX2_checkStand_12 : decode cX2_checkStand 12 = .ok (.dup, 1) := by decide +kernel
theorem dX2_checkStand_13 : decode cX2_checkStand 13 = .ok (.ldc 211, 2) := by decide +kernel
theorem dX2_checkStand_15 : decode cX2_checkStand 15 = .ok (.invokespecial 89, 3) := by decide +kernel
theorem dX2_checkStand_18 : decode cX2_checkStand 18 = .ok (.athrow, 1) := by decide +kernel
theorem dX2_checkStand_19 : decode cX2_checkStand 19 = .ok (.return_, 1) := by decide +kernel
theorem dX2_checkGun_0 : decode cX2_checkGun 0 = .ok (.iload_n 1, 1) := by decide +kernel
theorem dX2_checkGun_1 : decode cX2_checkGun 1 = .ok (.ifCond .lt 14, 3) := by decide +kernel
theorem dX2_checkGun_4 : decode cX2_checkGun 4 = .ok (.iload_n 1, 1) := by decide +kernel
theorem dX2_checkGun_5 : decode cX2_checkGun 5 = .ok (.aload_n 0, 1) := by decide +kernel
theorem dX2_checkGun_6 : decode cX2_checkGun 6 = .ok (.getfield 19, 3) := by decide +kernel
theorem dX2_checkGun_9 : decode cX2_checkGun 9 = .ok (.getfield 35, 3) := by decide +kernel
theorem dX2_checkGun_12 : decode cX2_checkGun 12 = .ok (.if_icmp .lt 13, 3) := by decide +kernel
theorem dX2_checkGun_15 : decode cX2_checkGun 15 = .ok (.new 85, 3) := by decide +kernel
theorem dX2_checkGun_18 : decode cX2_checkGun 18 = .ok (.dup, 1) := by decide +kernel
theorem dX2_checkGun_19 : decode cX2_checkGun 19 = .ok (.ldc 213, 2) := by decide +kernel
theorem dX2_checkGun_21 : decode cX2_checkGun 21 = .ok (.invokespecial 89, 3) := by decide +kernel
theorem dX2_checkGun_24 : decode cX2_checkGun 24 = .ok (.athrow, 1) := by decide +kernel
theorem dX2_checkGun_25 : decode cX2_checkGun 25 = .ok (.return_, 1) := by decide +kernel
theorem dX2_checkTurns_0 : decode cX2_checkTurns 0 = .ok (.iload_n 0, 1) := by decide +kernel
theorem dX2_checkTurns_1 : decode cX2_checkTurns 1 = .ok (.iconst 1, 1) := by decide +kernel
theorem dX2_checkTurns_2 : decode cX2_checkTurns 2 = .ok (.if_icmp .lt 9, 3) := by decide +kernel
theorem dX2_checkTurns_5 : decode cX2_checkTurns 5 = .ok (.iload_n 0, 1) := by decide +kernel
theorem dX2_checkTurns_6 : decode cX2_checkTurns 6 = .ok (.bipush 50, 2) := by decide +kernel
theorem dX2_checkTurns_8 : decode cX2_checkTurns 8 = .ok (.if_icmp .le 13, 3) := by decide +kernel
theorem dX2_checkTurns_11 : decode cX2_checkTurns 11 = .ok (.new 26, 3) := by decide +kernel
theorem dX2_checkTurns_14 : decode cX2_checkTurns 14 = .ok (.dup, 1) := by decide +kernel
theorem dX2_checkTurns_15 : decode cX2_checkTurns 15 = .ok (.ldc 215, 2) := by decide +kernel
theorem dX2_checkTurns_17 : decode cX2_checkTurns 17 = .ok (.invokespecial 30, 3) := by decide +kernel
theorem dX2_checkTurns_20 : decode cX2_checkTurns 20 = .ok (.athrow, 1) := by decide +kernel
theorem dX2_checkTurns_21 : decode cX2_checkTurns 21 = .ok (.return_, 1) := by decide +kernel
theorem dX2_clayIn_0 : decode cX2_clayIn 0 = .ok (.iload_n 0, 1) := by decide +kernel
theorem dX2_clayIn_1 : decode cX2_clayIn 1 = .ok (.iconst 5, 1) := by decide +kernel
theorem dX2_clayIn_2 : decode cX2_clayIn 2 = .ok (.invokestatic 217, 3) := by decide +kernel
theorem dX2_clayIn_5 : decode cX2_clayIn 5 = .ok (.ireturn, 1) := by decide +kernel
theorem dX2_standIn_0 : decode cX2_standIn 0 = .ok (.iload_n 1, 1) := by decide +kernel
theorem dX2_standIn_1 : decode cX2_standIn 1 = .ok (.iload_n 0, 1) := by decide +kernel
theorem dX2_standIn_2 : decode cX2_standIn 2 = .ok (.iconst 5, 1) := by decide +kernel
theorem dX2_standIn_3 : decode cX2_standIn 3 = .ok (.idiv, 1) := by decide +kernel
theorem dX2_standIn_4 : decode cX2_standIn 4 = .ok (.iadd, 1) := by decide +kernel
theorem dX2_standIn_5 : decode cX2_standIn 5 = .ok (.iconst 5, 1) := by decide +kernel
theorem dX2_standIn_6 : decode cX2_standIn 6 = .ok (.invokestatic 217, 3) := by decide +kernel
theorem dX2_standIn_9 : decode cX2_standIn 9 = .ok (.ireturn, 1) := by decide +kernel
theorem dX2_scoreWithRest_0 : decode cX2_scoreWithRest 0 = .ok (.aload_n 0, 1) := by decide +kernel
theorem dX2_scoreWithRest_1 : decode cX2_scoreWithRest 1 = .ok (.getfield 23, 3) := by decide +kernel
theorem dX2_scoreWithRest_4 : decode cX2_scoreWithRest 4 = .ok (.aload_n 0, 1) := by decide +kernel
theorem dX2_scoreWithRest_5 : decode cX2_scoreWithRest 5 = .ok (.getfield 19, 3) := by decide +kernel
theorem dX2_scoreWithRest_8 : decode cX2_scoreWithRest 8 = .ok (.invokevirtual 127, 3) := by decide +kernel
theorem dX2_scoreWithRest_11 : decode cX2_scoreWithRest 11 = .ok (.aload_n 0, 1) := by decide +kernel
theorem dX2_scoreWithRest_12 : decode cX2_scoreWithRest 12 = .ok (.getfield 23, 3) := by decide +kernel
theorem dX2_scoreWithRest_15 : decode cX2_scoreWithRest 15 = .ok (.aload_n 0, 1) := by decide +kernel
theorem dX2_scoreWithRest_16 : decode cX2_scoreWithRest 16 = .ok (.getfield 10, 3) := by decide +kernel
theorem dX2_scoreWithRest_19 : decode cX2_scoreWithRest 19 = .ok (.iload_n 1, 1) := by decide +kernel
theorem dX2_scoreWithRest_20 : decode cX2_scoreWithRest 20 = .ok (.aload_n 0, 1) := by decide +kernel
theorem dX2_scoreWithRest_21 : decode cX2_scoreWithRest 21 = .ok (.getfield 72, 3) := by decide +kernel
theorem dX2_scoreWithRest_24 : decode cX2_scoreWithRest 24 = .ok (.iload_n 2, 1) := by decide +kernel
theorem dX2_scoreWithRest_25 : decode cX2_scoreWithRest 25 = .ok (.invokevirtual 131, 3) := by decide +kernel
theorem dX2_scoreWithRest_28 : decode cX2_scoreWithRest 28 = .ok (.aload_n 0, 1) := by decide +kernel
theorem dX2_scoreWithRest_29 : decode cX2_scoreWithRest 29 = .ok (.getfield 23, 3) := by decide +kernel
theorem dX2_scoreWithRest_32 : decode cX2_scoreWithRest 32 = .ok (.getfield 66, 3) := by decide +kernel
theorem dX2_scoreWithRest_35 : decode cX2_scoreWithRest 35 = .ok (.iload_n 1, 1) := by decide +kernel
theorem dX2_scoreWithRest_36 : decode cX2_scoreWithRest 36 = .ok (.iconst 0, 1) := by decide +kernel
theorem dX2_scoreWithRest_37 : decode cX2_scoreWithRest 37 = .ok (.iastore, 1) := by decide +kernel
theorem dX2_scoreWithRest_38 : decode cX2_scoreWithRest 38 = .ok (.aload_n 0, 1) := by decide +kernel
theorem dX2_scoreWithRest_39 : decode cX2_scoreWithRest 39 = .ok (.getfield 23, 3) := by decide +kernel
theorem dX2_scoreWithRest_42 : decode cX2_scoreWithRest 42 = .ok (.aload_n 0, 1) := by decide +kernel
theorem dX2_scoreWithRest_43 : decode cX2_scoreWithRest 43 = .ok (.getfield 10, 3) := by decide +kernel
theorem dX2_scoreWithRest_46 : decode cX2_scoreWithRest 46 = .ok (.iload_n 1, 1) := by decide +kernel
theorem dX2_scoreWithRest_47 : decode cX2_scoreWithRest 47 = .ok (.aload_n 0, 1) := by decide +kernel
theorem dX2_scoreWithRest_48 : decode cX2_scoreWithRest 48 = .ok (.getfield 72, 3) := by decide +kernel
theorem dX2_scoreWithRest_51 : decode cX2_scoreWithRest 51 = .ok (.iload_n 2, 1) := by decide +kernel
theorem dX2_scoreWithRest_52 : decode cX2_scoreWithRest 52 = .ok (.iadd, 1) := by decide +kernel
theorem dX2_scoreWithRest_53 : decode cX2_scoreWithRest 53 = .ok (.bipush 25, 2) := by decide +kernel
theorem dX2_scoreWithRest_55 : decode cX2_scoreWithRest 55 = .ok (.iload_n 2, 1) := by decide +kernel
theorem dX2_scoreWithRest_56 : decode cX2_scoreWithRest 56 = .ok (.isub, 1) := by decide +kernel
theorem dX2_scoreWithRest_57 : decode cX2_scoreWithRest 57 = .ok (.invokevirtual 131, 3) := by decide +kernel
theorem dX2_scoreWithRest_60 : decode cX2_scoreWithRest 60 = .ok (.aload_n 0, 1) := by decide +kernel
theorem dX2_scoreWithRest_61 : decode cX2_scoreWithRest 61 = .ok (.getfield 23, 3) := by decide +kernel
theorem dX2_scoreWithRest_64 : decode cX2_scoreWithRest 64 = .ok (.getfield 103, 3) := by decide +kernel
theorem dX2_scoreWithRest_67 : decode cX2_scoreWithRest 67 = .ok (.iload_n 1, 1) := by decide +kernel
theorem dX2_scoreWithRest_68 : decode cX2_scoreWithRest 68 = .ok (.iaload, 1) := by decide +kernel
theorem dX2_scoreWithRest_69 : decode cX2_scoreWithRest 69 = .ok (.ireturn, 1) := by decide +kernel
theorem dX2_fold_0 : decode cX2_fold 0 = .ok (.lload_n 0, 1) := by decide +kernel
theorem dX2_fold_1 : decode cX2_fold 1 = .ok (.ldc2_w 220, 3) := by decide +kernel
theorem dX2_fold_4 : decode cX2_fold 4 = .ok (.lmul, 1) := by decide +kernel
theorem dX2_fold_5 : decode cX2_fold 5 = .ok (.lload_n 2, 1) := by decide +kernel
theorem dX2_fold_6 : decode cX2_fold 6 = .ok (.ladd, 1) := by decide +kernel
theorem dX2_fold_7 : decode cX2_fold 7 = .ok (.lreturn, 1) := by decide +kernel
end
section
theorem dX3_init_0 : decode cX3_init 0 = .ok (.aload_n 0, 1) := by decide +kernel
theorem dX3_init_1 : decode cX3_init 1 = .ok (.invokespecial 3, 3) := by decide +kernel
theorem dX3_init_4 : decode cX3_init 4 = .ok (.aload_n 0, 1) := by decide +kernel
theorem dX3_init_5 : decode cX3_init 5 = .ok (.bipush 6, 2) := by decide +kernel
theorem dX3_init_7 : decode cX3_init 7 = .ok (.newarray .int, 2) := by decide +kernel
theorem dX3_init_9 : decode cX3_init 9 = .ok (.putfield 9, 3) := by decide +kernel
theorem dX3_init_12 : decode cX3_init 12 = .ok (.aload_n 0, 1) := by decide +kernel
theorem dX3_init_13 : decode cX3_init 13 = .ok (.bipush 6, 2) := by decide +kernel
theorem dX3_init_15 : decode cX3_init 15 = .ok (.newarray .int, 2) := by decide +kernel
theorem dX3_init_17 : decode cX3_init 17 = .ok (.putfield 13, 3) := by decide +kernel
theorem dX3_init_20 : decode cX3_init 20 = .ok (.aload_n 0, 1) := by decide +kernel
theorem dX3_init_21 : decode cX3_init 21 = .ok (.iconst 5, 1) := by decide +kernel
theorem dX3_init_22 : decode cX3_init 22 = .ok (.newarray .int, 2) := by decide +kernel
theorem dX3_init_24 : decode cX3_init 24 = .ok (.putfield 16, 3) := by decide +kernel
theorem dX3_init_27 : decode cX3_init 27 = .ok (.aload_n 0, 1) := by decide +kernel
theorem dX3_init_28 : decode cX3_init 28 = .ok (.iconst 5, 1) := by decide +kernel
theorem dX3_init_29 : decode cX3_init 29 = .ok (.newarray .int, 2) := by decide +kernel
theorem dX3_init_31 : decode cX3_init 31 = .ok (.dup, 1) := by decide +kernel
theorem dX3_init_32 : decode cX3_init 32 = .ok (.iconst 0, 1) := by decide +kernel
theorem dX3_init_33 : decode cX3_init 33 = .ok (.bipush 20, 2) := by decide +kernel
theorem dX3_init_35 : decode cX3_init 35 = .ok (.iastore, 1) := by decide +kernel
theorem dX3_init_36 : decode cX3_init 36 = .ok (.dup, 1) := by decide +kernel
theorem dX3_init_37 : decode cX3_init 37 = .ok (.iconst 1, 1) := by decide +kernel
theorem dX3_init_38 : decode cX3_init 38 = .ok (.bipush 20, 2) := by decide +kernel
theorem dX3_init_40 : decode cX3_init 40 = .ok (.iastore, 1) := by decide +kernel
theorem dX3_init_41 : decode cX3_init 41 = .ok (.dup, 1) := by decide +kernel
theorem dX3_init_42 : decode cX3_init 42 = .ok (.iconst 2, 1) := by decide +kernel
theorem dX3_init_43 : decode cX3_init 43 = .ok (.bipush 20, 2) := by decide +kernel
theorem dX3_init_45 : decode cX3_init 45 = .ok (.iastore, 1) := by decide +kernel
theorem dX3_init_46 : decode cX3_init 46 = .ok (.dup, 1) := by decide +kernel
theorem dX3_init_47 : decode cX3_init 47 = .ok (.iconst 3, 1) := by decide +kernel
theorem dX3_init_48 : decode cX3_init 48 = .ok (.bipush 20, 2) := by decide +kernel
theorem dX3_init_50 : decode cX3_init 50 = .ok (.iastore, 1) := by decide +kernel
theorem dX3_init_51 : decode cX3_init 51 = .ok (.dup, 1) := by decide +kernel
theorem dX3_init_52 : decode cX3_init 52 = .ok (.iconst 4, 1) := by decide +kernel
theorem dX3_init_53 : decode cX3_init 53 = .ok (.bipush 20, 2) := by decide +kernel
theorem dX3_init_55 : decode cX3_init 55 = .ok (.iastore, 1) := by decide +kernel
theorem dX3_init_56 : decode cX3_init 56 = .ok (.putfield 19, 3) := by decide +kernel
theorem dX3_init_59 : decode cX3_init 59 = .ok (.aload_n 0, 1) := by decide +kernel
theorem dX3_init_60 : decode cX3_init 60 = .ok (.bipush 25, 2) := by decide +kernel
theorem dX3_init_62 : decode cX3_init 62 = .ok (.newarray .int, 2) := by decide +kernel
theorem dX3_init_64 : decode cX3_init 64 = .ok (.putfield 22, 3) := by decide +kernel
theorem dX3_init_67 : decode cX3_init 67 = .ok (.aload_n 0, 1) := by decide +kernel
theorem dX3_init_68 : decode cX3_init 68 = .ok (.bipush 25, 2) := by decide +kernel
theorem dX3_init_70 : decode cX3_init 70 = .ok (.newarray .int, 2) := by decide +kernel
theorem dX3_init_72 : decode cX3_init 72 = .ok (.putfield 25, 3) := by decide +kernel
theorem dX3_init_75 : decode cX3_init 75 = .ok (.return_, 1) := by decide +kernel
theorem dX3_thrown_0 : decode cX3_thrown 0 = .ok (.aload_n 0, 1) := by decide +kernel
theorem dX3_thrown_1 : decode cX3_thrown 1 = .ok (.getfield 28, 3) := by decide +kernel
theorem dX3_thrown_4 : decode cX3_thrown 4 = .ok (.ireturn, 1) := by decide +kernel
theorem dX3_no_0 : decode cX3_no 0 = .ok (.aload_n 0, 1) := by decide +kernel
theorem dX3_no_1 : decode cX3_no 1 = .ok (.iload_n 1, 1) := by decide +kernel
theorem dX3_no_2 : decode cX3_no 2 = .ok (.putfield 28, 3) := by decide +kernel
theorem dX3_no_5 : decode cX3_no 5 = .ok (.iconst 0, 1) := by decide +kernel
theorem dX3_no_6 : decode cX3_no 6 = .ok (.ireturn, 1) := by decide +kernel
theorem dX3_ok_0 : decode cX3_ok 0 = .ok (.aload_n 0, 1) := by decide +kernel
theorem dX3_ok_1 : decode cX3_ok 1 = .ok (.iconst 0, 1) := by decide +kernel
theorem dX3_ok_2 : decode cX3_ok 2 = .ok (.putfield 28, 3) := by decide +kernel
theorem dX3_ok_5 : decode cX3_ok 5 = .ok (.iload_n 1, 1) := by decide +kernel
theorem dX3_ok_6 : decode cX3_ok 6 = .ok (.ireturn, 1) := by decide +kernel
theorem dX3_isFrom_0 : decode cX3_isFrom 0 = .ok (.iload_n 0, 1) := by decide +kernel
theorem dX3_isFrom_1 : decode cX3_isFrom 1 = .ok (.iload_n 1, 1) := by decide +kernel
theorem dX3_isFrom_2 : decode cX3_isFrom 2 = .ok (.if_icmp .lt 12, 3) := by decide +kernel
theorem dX3_isFrom_5 : decode cX3_isFrom 5 = .ok (.iload_n 0, 1) := by decide +kernel
theorem dX3_isFrom_6 : decode cX3_isFrom 6 = .ok (.iload_n 2, 1) := by decide +kernel
theorem dX3_isFrom_7 : decode cX3_isFrom 7 = .ok (.if_icmp .gt 7, 3) := by decide +kernel
theorem dX3_isFrom_10 : decode cX3_isFrom 10 = .ok (.iconst 1, 1) := by decide +kernel
theorem dX3_isFrom_11 : decode cX3_isFrom 11 = .ok (.goto 4, 3) := by decide +kernel
theorem dX3_isFrom_14 : decode cX3_isFrom 14 = .ok (.iconst 0, 1) := by decide +kernel
theorem dX3_isFrom_15 : decode cX3_isFrom 15 = .ok (.ireturn, 1) := by decide +kernel
theorem dX3_isGun_0 : decode cX3_isGun 0 = .ok (.iload_n 1, 1) := by decide +kernel
theorem dX3_isGun_1 : decode cX3_isGun 1 = .ok (.iconst 0, 1) := by decide +kernel
theorem dX3_isGun_2 : decode cX3_isGun 2 = .ok (.aload_n 0, 1) := by decide +kernel
theorem dX3_isGun_3 : decode cX3_isGun 3 = .ok (.getfield 32, 3) := by decide +kernel
theorem dX3_isGun_6 : decode cX3_isGun 6 = .ok (.iconst 1, 1) := by decide +kernel
theorem dX3_isGun_7 : decode cX3_isGun 7 = .ok (.isub, 1) := by decide +kernel
theorem dX3_isGun_8 : decode cX3_isGun 8 = .ok (.invokestatic 35, 3) := by decide +kernel
theorem dX3_isGun_11 : decode cX3_isGun 11 = .ok (.ireturn, 1) := by decide +kernel
theorem dX3_keep_0 : decode cX3_keep 0 = .ok (.aload_n 0, 1) := by decide +kernel
theorem dX3_keep_1 : decode cX3_keep 1 = .ok (.getfield 22, 3) := by decide +kernel
theorem dX3_keep_4 : decode cX3_keep 4 = .ok (.iconst 0, 1) := by decide +kernel
theorem dX3_keep_5 : decode cX3_keep 5 = .ok (.aload_n 0, 1) := by decide +kernel
theorem dX3_keep_6 : decode cX3_keep 6 = .ok (.getfield 25, 3) := by decide +kernel
theorem dX3_keep_9 : decode cX3_keep 9 = .ok (.iconst 0, 1) := by decide +kernel
theorem dX3_keep_10 : decode cX3_keep 10 = .ok (.bipush 25, 2) := by decide +kernel
theorem dX3_keep_12 : decode cX3_keep 12 = .ok (.invokestatic 39, 3) := by decide +kernel
theorem dX3_keep_15 : decode cX3_keep 15 = .ok (.return_, 1) := by decide +kernel
theorem dX3_bringBack_0 : decode cX3_bringBack 0 = .ok (.aload_n 0, 1) := by decide +kernel
theorem dX3_bringBack_1 : decode cX3_bringBack 1 = .ok (.getfield 25, 3) := by decide +kernel
theorem dX3_bringBack_4 : decode cX3_bringBack 4 = .ok (.iconst 0, 1) := by decide +kernel
theorem dX3_bringBack_5 : decode cX3_bringBack 5 = .ok (.aload_n 0, 1) := by decide +kernel
theorem dX3_bringBack_6 : decode cX3_bringBack 6 = .ok (.getfield 22, 3) := by decide +kernel
theorem dX3_bringBack_9 : decode cX3_bringBack 9 = .ok (.iconst 0, 1) := by decide +kernel
theorem dX3_bringBack_10 : decode cX3_bringBack 10 = .ok (.bipush 25, 2) := by decide +kernel
theorem dX3_bringBack_12 : decode cX3_bringBack 12 = .ok (.invokestatic 39, 3) := by decide +kernel
theorem dX3_bringBack_15 : decode cX3_bringBack 15 = .ok (.return_, 1) := by decide +kernel
theorem dX3_at_0 : decode cX3_at 0 = .ok (.aload_n 0, 1) := by decide +kernel
theorem dX3_at_1 : decode cX3_at 1 = .ok (.getfield 16, 3) := by decide +kernel
theorem dX3_at_4 : decode cX3_at 4 = .ok (.iload_n 1, 1) := by decide +kernel
theorem dX3_at_5 : decode cX3_at 5 = .ok (.iaload, 1) := by decide +kernel
theorem dX3_at_6 : decode cX3_at 6 = .ok (.aload_n 0, 1) := by decide +kernel
theorem dX3_at_7 : decode cX3_at 7 = .ok (.getfield 19, 3) := by decide +kernel
theorem dX3_at_10 : decode cX3_at 10 = .ok (.iload_n 1, 1) := by decide +kernel
theorem dX3_at_11 : decode cX3_at 11 = .ok (.iaload, 1) := by decide +kernel
theorem dX3_at_12 : decode cX3_at 12 = .ok (.iload_n 2, 1) := by decide +kernel
theorem dX3_at_13 : decode cX3_at 13 = .ok (.iconst 2, 1) := by decide +kernel
theorem dX3_at_14 : decode cX3_at 14 = .ok (.isub, 1) := by decide +kernel
theorem dX3_at_15 : decode cX3_at 15 = .ok (.imul, 1) := by decide +kernel
theorem dX3_at_16 : decode cX3_at 16 = .ok (.iconst 2, 1) := by decide +kernel
theorem dX3_at_17 : decode cX3_at 17 = .ok (.idiv, 1) := by decide +kernel
theorem dX3_at_18 : decode cX3_at 18 = .ok (.iadd, 1) := by decide +kernel
theorem dX3_at_19 : decode cX3_at 19 = .ok (.ireturn, 1) := by decide +kernel
theorem dX3_clay_0 : decode cX3_clay 0 = .ok (.aload_n 0, 1) := by decide +kernel
theorem dX3_clay_1 : decode cX3_clay 1 = .ok (.getfield 22, 3) := by decide +kernel
theorem dX3_clay_4 : decode cX3_clay 4 = .ok (.iconst 0, 1) := by decide +kernel
theorem dX3_clay_5 : decode cX3_clay 5 = .ok (.iaload, 1) := by decide +kernel
theorem dX3_clay_6 : decode cX3_clay 6 = .ok (.iconst 5, 1) := by decide +kernel
theorem dX3_clay_7 : decode cX3_clay 7 = .ok (.irem, 1) := by decide +kernel
theorem dX3_clay_8 : decode cX3_clay 8 = .ok (.ireturn, 1) := by decide +kernel
theorem dX3_stand_0 : decode cX3_stand 0 = .ok (.iload_n 1, 1) := by decide +kernel
theorem dX3_stand_1 : decode cX3_stand 1 = .ok (.aload_n 0, 1) := by decide +kernel
theorem dX3_stand_2 : decode cX3_stand 2 = .ok (.getfield 22, 3) := by decide +kernel
theorem dX3_stand_5 : decode cX3_stand 5 = .ok (.iconst 0, 1) := by decide +kernel
theorem dX3_stand_6 : decode cX3_stand 6 = .ok (.iaload, 1) := by decide +kernel
theorem dX3_stand_7 : decode cX3_stand 7 = .ok (.iconst 5, 1) := by decide +kernel
theorem dX3_stand_8 : decode cX3_stand 8 = .ok (.idiv, 1) := by decide +kernel
theorem dX3_stand_9 : decode cX3_stand 9 = .ok (.iadd, 1) := by decide +kernel
theorem dX3_stand_10 : decode cX3_stand 10 = .ok (.iconst 5, 1) := by decide +kernel
theorem dX3_stand_11 : decode cX3_stand 11 = .ok (.irem, 1) := by decide +kernel
theorem dX3_stand_12 : decode cX3_stand 12 = .ok (.ireturn, 1) := by decide +kernel
theorem dX3_far_0 : decode cX3_far 0 = .ok (.aload_n 0, 1) := by decide +kernel
theorem dX3_far_1 : decode cX3_far 1 = .ok (.aload_n 0, 1) := by decide +kernel
theorem dX3_far_2 : decode cX3_far 2 = .ok (.iload_n 1, 1) := by decide +kernel
theorem dX3_far_3 : decode cX3_far 3 = .ok (.invokevirtual 45, 3) := by decide +kernel
theorem dX3_far_6 : decode cX3_far 6 = .ok (.aload_n 0, 1) := by decide +kernel
theorem dX3_far_7 : decode cX3_far 7 = .ok (.invokevirtual 49, 3) := by decide +kernel
theorem dX3_far_10 : decode cX3_far 10 = .ok (.invokevirtual 53, 3) := by decide +kernel
theorem dX3_far_13 : decode cX3_far 13 = .ok (.invokestatic 57, 3) := by decide +kernel
theorem dX3_far_16 : decode cX3_far 16 = .ok (.ireturn, 1) := by decide +kernel
theorem dX3_hit_0 : decode cX3_hit 0 = .ok (.aload_n 0, 1) := by decide +kernel
theorem dX3_hit_1 : decode cX3_hit 1 = .ok (.iload_n 1, 1) := by decide +kernel
theorem dX3_hit_2 : decode cX3_hit 2 = .ok (.invokevirtual 62, 3) := by decide +kernel
theorem dX3_hit_5 : decode cX3_hit 5 = .ok (.aload_n 0, 1) := by decide +kernel
theorem dX3_hit_6 : decode cX3_hit 6 = .ok (.getfield 22, 3) := by decide +kernel
theorem dX3_hit_9 : decode cX3_hit 9 = .ok (.bipush 19, 2) := by decide +kernel
theorem dX3_hit_11 : decode cX3_hit 11 = .ok (.iload_n 1, 1) := by decide +kernel
theorem dX3_hit_12 : decode cX3_hit 12 = .ok (.iadd, 1) := by decide +kernel
theorem dX3_hit_13 : decode cX3_hit 13 = .ok (.iaload, 1) := by decide +kernel
theorem dX3_hit_14 : decode cX3_hit 14 = .ok (.aload_n 0, 1) := by decide +kernel
theorem dX3_hit_15 : decode cX3_hit 15 = .ok (.getfield 13, 3) := by decide +kernel
theorem dX3_hit_18 : decode cX3_hit 18 = .ok (.iload_n 1, 1) := by decide +kernel
theorem dX3_hit_19 : decode cX3_hit 19 = .ok (.iaload, 1) := by decide +kernel
theorem dX3_hit_20 : decode cX3_hit 20 = .ok (.idiv, 1) := by decide +kernel
theorem dX3_hit_21 : decode cX3_hit 21 = .ok (.iadd, 1) := by decide +kernel
theorem dX3_hit_22 : decode cX3_hit 22 = .ok (.aload_n 0, 1) := by decide +kernel
theorem dX3_hit_23 : decode cX3_hit 23 = .ok (.getfield 9, 3) := by decide +kernel
theorem dX3_hit_26 : decode cX3_hit 26 = .ok (.iload_n 1, 1) := by decide +kernel
theorem dX3_hit_27 : decode cX3_hit 27 = .ok (.iaload, 1) := by decide +kernel
theorem dX3_hit_28 : decode cX3_hit 28 = .ok (.if_icmp .gt 5, 3) := by decide +kernel
theorem dX3_hit_31 : decode cX3_hit 31 = .ok (.iconst 2, 1) := by decide +kernel
theorem dX3_hit_32 : decode cX3_hit 32 = .ok (.ireturn, 1) := by decide +kernel
theorem dX3_hit_33 : decode cX3_hit 33 = .ok (.aload_n 0, 1) := by decide +kernel
theorem dX3_hit_34 : decode cX3_hit 34 = .ok (.iload_n 1, 1) := by decide +kernel
theorem dX3_hit_35 : decode cX3_hit 35 = .ok (.invokevirtual 62, 3) := by decide +kernel
theorem dX3_hit_38 : decode cX3_hit 38 = .ok (.aload_n 0, 1) := by decide +kernel
theorem dX3_hit_39 : decode cX3_hit 39 = .ok (.getfield 9, 3) := by decide +kernel
theorem dX3_hit_42 : decode cX3_hit 42 = .ok (.iload_n 1, 1) := by decide +kernel
theorem dX3_hit_43 : decode cX3_hit 43 = .ok (.iaload, 1) := by decide +kernel
theorem dX3_hit_44 : decode cX3_hit 44 = .ok (.if_icmp .gt 7, 3) := by decide +kernel
theorem dX3_hit_47 : decode cX3_hit 47 = .ok (.iconst 1, 1) := by decide +kernel
theorem dX3_hit_48 : decode cX3_hit 48 = .ok (.goto 4, 3) := by decide +kernel
theorem dX3_hit_51 : decode cX3_hit 51 = .ok (.iconst 0, 1) := by decide +kernel
theorem dX3_hit_52 : decode cX3_hit 52 = .ok (.ireturn, 1) := by decide +kernel
theorem dX3_shoot_0 : decode cX3_shoot 0 = .ok (.aload_n 0, 1) := by decide +kernel
theorem dX3_shoot_1 : decode cX3_shoot 1 = .ok (.iload_n 1, 1) := by decide +kernel
theorem dX3_shoot_2 : decode cX3_shoot 2 = .ok (.invokevirtual 65, 3) := by decide +kernel
theorem dX3_shoot_5 : decode cX3_shoot 5 = .ok (.istore_n 2, 1) := by decide +kernel
theorem dX3_shoot_6 : decode cX3_shoot 6 = .ok (.aload_n 0, 1) := by decide +kernel
theorem dX3_shoot_7 : decode cX3_shoot 7 = .ok (.getfield 22, 3) := by decide +kernel
theorem dX3_shoot_10 : decode cX3_shoot 10 = .ok (.iconst 1, 1) := by decide +kernel
theorem dX3_shoot_11 : decode cX3_shoot 11 = .ok (.iload_n 1, 1) := by decide +kernel
theorem dX3_shoot_12 : decode cX3_shoot 12 = .ok (.iadd, 1) := by decide +kernel
theorem dX3_shoot_13 : decode cX3_shoot 13 = .ok (.dup2, 1) := by decide +kernel
theorem dX3_shoot_14 : decode cX3_shoot 14 = .ok (.iaload, 1) := by decide +kernel
theorem dX3_shoot_15 : decode cX3_shoot 15 = .ok (.iload_n 2, 1) := by decide +kernel
theorem dX3_shoot_16 : decode cX3_shoot 16 = .ok (.iadd, 1) := by decide +kernel
theorem dX3_shoot_17 : decode cX3_shoot 17 = .ok (.iastore, 1) := by decide +kernel
theorem dX3_shoot_18 : decode cX3_shoot 18 = .ok (.aload_n 0, 1) := by decide +kernel
theorem dX3_shoot_19 : decode cX3_shoot 19 = .ok (.getfield 22, 3) := by decide +kernel
theorem dX3_shoot_22 : decode cX3_shoot 22 = .ok (.bipush 7, 2) := by decide +kernel
theorem dX3_shoot_24 : decode cX3_shoot 24 = .ok (.iload_n 1, 1) := by decide +kernel
theorem dX3_shoot_25 : decode cX3_shoot 25 = .ok (.iadd, 1) := by decide +kernel
theorem dX3_shoot_26 : decode cX3_shoot 26 = .ok (.dup2, 1) := by decide +kernel
theorem dX3_shoot_27 : decode cX3_shoot 27 = .ok (.iaload, 1) := by decide +kernel
theorem dX3_shoot_28 : decode cX3_shoot 28 = .ok (.iload_n 2, 1) := by decide +kernel
theorem dX3_shoot_29 : decode cX3_shoot 29 = .ok (.iconst 2, 1) := by decide +kernel
theorem dX3_shoot_30 : decode cX3_shoot 30 = .ok (.if_icmp .ne 7, 3) := by decide +kernel
theorem dX3_shoot_33 : decode cX3_shoot 33 = .ok (.iconst 1, 1) := by decide +kernel
theorem dX3_shoot_34 : decode cX3_shoot 34 = .ok (.goto 4, 3) := by decide +kernel
theorem dX3_shoot_37 : decode cX3_shoot 37 = .ok (.iconst 0, 1) := by decide +kernel
theorem dX3_shoot_38 : decode cX3_shoot 38 = .ok (.iadd, 1) := by decide +kernel
theorem dX3_shoot_39 : decode cX3_shoot 39 = .ok (.iastore, 1) := by decide +kernel
theorem dX3_shoot_40 : decode cX3_shoot 40 = .ok (.aload_n 0, 1) := by decide +kernel
theorem dX3_shoot_41 : decode cX3_shoot 41 = .ok (.getfield 22, 3) := by decide +kernel
theorem dX3_shoot_44 : decode cX3_shoot 44 = .ok (.bipush 13, 2) := by decide +kernel
theorem dX3_shoot_46 : decode cX3_shoot 46 = .ok (.iload_n 1, 1) := by decide +kernel
theorem dX3_shoot_47 : decode cX3_shoot 47 = .ok (.iadd, 1) := by decide +kernel
theorem dX3_shoot_48 : decode cX3_shoot 48 = .ok (.dup2, 1) := by decide +kernel
theorem dX3_shoot_49 : decode cX3_shoot 49 = .ok (.iaload, 1) := by decide +kernel
theorem dX3_shoot_50 : decode cX3_shoot 50 = .ok (.iload_n 2, 1) := by decide +kernel
theorem dX3_shoot_51 : decode cX3_shoot 51 = .ok (.ifCond .ne 7, 3) := by decide +kernel
theorem dX3_shoot_54 : decode cX3_shoot 54 = .ok (.iconst 1, 1) := by decide +kernel
theorem dX3_shoot_55 : decode cX3_shoot 55 = .ok (.goto 4, 3) := by decide +kernel
theorem dX3_shoot_58 : decode cX3_shoot 58 = .ok (.iconst 0, 1) := by decide +kernel
theorem dX3_shoot_59 : decode cX3_shoot 59 = .ok (.iadd, 1) := by decide +kernel
theorem dX3_shoot_60 : decode cX3_shoot 60 = .ok (.iastore, 1) := by decide +kernel
theorem dX3_shoot_61 : decode cX3_shoot 61 = .ok (.aload_n 0, 1) := by decide +kernel
theorem dX3_shoot_62 : decode cX3_shoot 62 = .ok (.getfield 22, 3) := by decide +kernel
theorem dX3_shoot_65 : decode cX3_shoot 65 = .ok (.bipush 19, 2) := by decide +kernel
theorem dX3_shoot_67 : decode cX3_shoot 67 = .ok (.iload_n 1, 1) := by decide +kernel
theorem dX3_shoot_68 : decode cX3_shoot 68 = .ok (.iadd, 1) := by decide +kernel
theorem dX3_shoot_69 : decode cX3_shoot 69 = .ok (.dup2, 1) := by decide +kernel
theorem dX3_shoot_70 : decode cX3_shoot 70 = .ok (.iaload, 1) := by decide +kernel
theorem dX3_shoot_71 : decode cX3_shoot 71 = .ok (.iload_n 2, 1) := by decide +kernel
theorem dX3_shoot_72 : decode cX3_shoot 72 = .ok (.iconst 2, 1) := by decide +kernel
theorem dX3_shoot_73 : decode cX3_shoot 73 = .ok (.if_icmp .ne 7, 3) := by decide +kernel
theorem dX3_shoot_76 : decode cX3_shoot 76 = .ok (.iconst 1, 1) := by decide +kernel
theorem dX3_shoot_77 : decode cX3_shoot 77 = .ok (.goto 4, 3) := by decide +kernel
theorem dX3_shoot_80 : decode cX3_shoot 80 = .ok (.iconst 2, 1) := by decide +kernel
theorem dX3_shoot_81 : decode cX3_shoot 81 = .ok (.iadd, 1) := by decide +kernel
theorem dX3_shoot_82 : decode cX3_shoot 82 = .ok (.iastore, 1) := by decide +kernel
theorem dX3_shoot_83 : decode cX3_shoot 83 = .ok (.return_, 1) := by decide +kernel
theorem dX3_turnOn_0 : decode cX3_turnOn 0 = .ok (.iconst 0, 1) := by decide +kernel
theorem dX3_turnOn_1 : decode cX3_turnOn 1 = .ok (.istore_n 1, 1) := by decide +kernel
theorem dX3_turnOn_2 : decode cX3_turnOn 2 = .ok (.iload_n 1, 1) := by decide +kernel
theorem dX3_turnOn_3 : decode cX3_turnOn 3 = .ok (.aload_n 0, 1) := by decide +kernel
theorem dX3_turnOn_4 : decode cX3_turnOn 4 = .ok (.getfield 32, 3) := by decide +kernel
theorem dX3_turnOn_7 : decode cX3_turnOn 7 = .ok (.if_icmp .ge 14, 3) := by decide +kernel
theorem dX3_turnOn_10 : decode cX3_turnOn 10 = .ok (.aload_n 0, 1) := by decide +kernel
theorem dX3_turnOn_11 : decode cX3_turnOn 11 = .ok (.iload_n 1, 1) := by decide +kernel
theorem dX3_turnOn_12 : decode cX3_turnOn 12 = .ok (.invokevirtual 68, 3) := by decide +kernel
theorem dX3_turnOn_15 : decode cX3_turnOn 15 = .ok (.iinc 1 1, 3) := by decide +kernel
theorem dX3_turnOn_18 : decode cX3_turnOn 18 = .ok (.goto (-16), 3) := by decide +kernel
theorem dX3_turnOn_21 : decode cX3_turnOn 21 = .ok (.aload_n 0, 1) := by decide +kernel
theorem dX3_turnOn_22 : decode cX3_turnOn 22 = .ok (.invokevirtual 49, 3) := by decide +kernel
theorem dX3_turnOn_25 : decode cX3_turnOn 25 = .ok (.iconst 4, 1) := by decide +kernel
theorem dX3_turnOn_26 : decode cX3_turnOn 26 = .ok (.if_icmp .ne 43, 3) := by decide +kernel
theorem dX3_turnOn_29 : decode cX3_turnOn 29 = .ok (.iconst 0, 1) := by decide +kernel
theorem dX3_turnOn_30 : decode cX3_turnOn 30 = .ok (.istore_n 1, 1) := by decide +kernel
theorem dX3_turnOn_31 : decode cX3_turnOn 31 = .ok (.iload_n 1, 1) := by decide +kernel
theorem dX3_turnOn_32 : decode cX3_turnOn 32 = .ok (.aload_n 0, 1) := by decide +kernel
theorem dX3_turnOn_33 : decode cX3_turnOn 33 = .ok (.getfield 32, 3) := by decide +kernel
theorem dX3_turnOn_36 : decode cX3_turnOn 36 = .ok (.if_icmp .ge 33, 3) := by decide +kernel
theorem dX3_turnOn_39 : decode cX3_turnOn 39 = .ok (.aload_n 0, 1) := by decide +kernel
theorem dX3_turnOn_40 : decode cX3_turnOn 40 = .ok (.getfield 22, 3) := by decide +kernel
theorem dX3_turnOn_43 : decode cX3_turnOn 43 = .ok (.bipush 19, 2) := by decide +kernel
theorem dX3_turnOn_45 : decode cX3_turnOn 45 = .ok (.iload_n 1, 1) := by decide +kernel
theorem dX3_turnOn_46 : decode cX3_turnOn 46 = .ok (.iadd, 1) := by decide +kernel
theorem dX3_turnOn_47 : decode cX3_turnOn 47 = .ok (.iconst 0, 1) := by decide +kernel
theorem dX3_turnOn_48 : decode cX3_turnOn 48 = .ok (.aload_n 0, 1) := by decide +kernel
theorem dX3_turnOn_49 : decode cX3_turnOn 49 = .ok (.getfield 22, 3) := by decide +kernel
theorem dX3_turnOn_52 : decode cX3_turnOn 52 = .ok (.bipush 19, 2) := by decide +kernel
theorem dX3_turnOn_54 : decode cX3_turnOn 54 = .ok (.iload_n 1, 1) := by decide +kernel
theorem dX3_turnOn_55 : decode cX3_turnOn 55 = .ok (.iadd, 1) := by decide +kernel
theorem dX3_turnOn_56 : decode cX3_turnOn 56 = .ok (.iaload, 1) := by decide +kernel
theorem dX3_turnOn_57 : decode cX3_turnOn 57 = .ok (.iconst 3, 1) := by decide +kernel
theorem dX3_turnOn_58 : decode cX3_turnOn 58 = .ok (.isub, 1) := by decide +kernel
theorem dX3_turnOn_59 : decode cX3_turnOn 59 = .ok (.invokestatic 72, 3) := by decide +kernel
theorem dX3_turnOn_62 : decode cX3_turnOn 62 = .ok (.iastore, 1) := by decide +kernel
theorem dX3_turnOn_63 : decode cX3_turnOn 63 = .ok (.iinc 1 1, 3) := by decide +kernel
theorem dX3_turnOn_66 : decode cX3_turnOn 66 = .ok (.goto (-35), 3) := by decide +kernel
theorem dX3_turnOn_69 : decode cX3_turnOn 69 = .ok (.aload_n 0, 1) := by decide +kernel
theorem dX3_turnOn_70 : decode cX3_turnOn 70 = .ok (.getfield 22, 3) := by decide +kernel
theorem dX3_turnOn_73 : decode cX3_turnOn 73 = .ok (.iconst 0, 1) := by decide +kernel
theorem dX3_turnOn_74 : decode cX3_turnOn 74 = .ok (.dup2, 1) := by decide +kernel
theorem dX3_turnOn_75 : decode cX3_turnOn 75 = .ok (.iaload, 1) := by decide +kernel
theorem dX3_turnOn_76 : decode cX3_turnOn 76 = .ok (.iconst 1, 1) := by decide +kernel
theorem dX3_turnOn_77 : decode cX3_turnOn 77 = .ok (.iadd, 1) := by decide +kernel
theorem dX3_turnOn_78 : decode cX3_turnOn 78 = .ok (.iastore, 1) := by decide +kernel
theorem dX3_turnOn_79 : decode cX3_turnOn 79 = .ok (.return_, 1) := by decide +kernel
theorem dX3_turnsOn_0 : decode cX3_turnsOn 0 = .ok (.iconst 0, 1) := by decide +kernel
theorem dX3_turnsOn_1 : decode cX3_turnsOn 1 = .ok (.istore_n 2, 1) := by decide +kernel
theorem dX3_turnsOn_2 : decode cX3_turnsOn 2 = .ok (.iload_n 2, 1) := by decide +kernel
theorem dX3_turnsOn_3 : decode cX3_turnsOn 3 = .ok (.iload_n 1, 1) := by decide +kernel
theorem dX3_turnsOn_4 : decode cX3_turnsOn 4 = .ok (.if_icmp .ge 13, 3) := by decide +kernel
theorem dX3_turnsOn_7 : decode cX3_turnsOn 7 = .ok (.aload_n 0, 1) := by decide +kernel
theorem dX3_turnsOn_8 : decode cX3_turnsOn 8 = .ok (.invokevirtual 75, 3) := by decide +kernel
theorem dX3_turnsOn_11 : decode cX3_turnsOn 11 = .ok (.iinc 2 1, 3) := by decide +kernel
theorem dX3_turnsOn_14 : decode cX3_turnsOn 14 = .ok (.goto (-12), 3) := by decide +kernel
theorem dX3_turnsOn_17 : decode cX3_turnsOn 17 = .ok (.return_, 1) := by decide +kernel
theorem dX3_missed_0 : decode cX3_missed 0 = .ok (.iconst 0, 1) := by decide +kernel
theorem dX3_missed_1 : decode cX3_missed 1 = .ok (.istore_n 1, 1) := by decide +kernel
theorem dX3_missed_2 : decode cX3_missed 2 = .ok (.iconst 0, 1) := by decide +kernel
theorem dX3_missed_3 : decode cX3_missed 3 = .ok (.istore_n 2, 1) := by decide +kernel
theorem dX3_missed_4 : decode cX3_missed 4 = .ok (.iload_n 2, 1) := by decide +kernel
theorem dX3_missed_5 : decode cX3_missed 5 = .ok (.aload_n 0, 1) := by decide +kernel
theorem dX3_missed_6 : decode cX3_missed 6 = .ok (.getfield 32, 3) := by decide +kernel
theorem dX3_missed_9 : decode cX3_missed 9 = .ok (.if_icmp .ge 21, 3) := by decide +kernel
theorem dX3_missed_12 : decode cX3_missed 12 = .ok (.iload_n 1, 1) := by decide +kernel
theorem dX3_missed_13 : decode cX3_missed 13 = .ok (.aload_n 0, 1) := by decide +kernel
theorem dX3_missed_14 : decode cX3_missed 14 = .ok (.getfield 22, 3) := by decide +kernel
theorem dX3_missed_17 : decode cX3_missed 17 = .ok (.bipush 13, 2) := by decide +kernel
theorem dX3_missed_19 : decode cX3_missed 19 = .ok (.iload_n 2, 1) := by decide +kernel
theorem dX3_missed_20 : decode cX3_missed 20 = .ok (.iadd, 1) := by decide +kernel
theorem dX3_missed_21 : decode cX3_missed 21 = .ok (.iaload, 1) := by decide +kernel
theorem dX3_missed_22 : decode cX3_missed 22 = .ok (.iadd, 1) := by decide +kernel
theorem dX3_missed_23 : decode cX3_missed 23 = .ok (.istore_n 1, 1) := by decide +kernel
theorem dX3_missed_24 : decode cX3_missed 24 = .ok (.iinc 2 1, 3) := by decide +kernel
theorem dX3_missed_27 : decode cX3_missed 27 = .ok (.goto (-23), 3) := by decide +kernel
theorem dX3_missed_30 : decode cX3_missed 30 = .ok (.iload_n 1, 1) := by decide +kernel
theorem dX3_missed_31 : decode cX3_missed 31 = .ok (.ireturn, 1) := by decide +kernel
theorem dX3_first_0 : decode cX3_first 0 = .ok (.iconst (-1), 1) := by decide +kernel
theorem dX3_first_1 : decode cX3_first 1 = .ok (.istore_n 1, 1) := by decide +kernel
theorem dX3_first_2 : decode cX3_first 2 = .ok (.iconst 0, 1) := by decide +kernel
theorem dX3_first_3 : decode cX3_first 3 = .ok (.istore_n 2, 1) := by decide +kernel
theorem dX3_first_4 : decode cX3_first 4 = .ok (.iload_n 2, 1) := by decide +kernel
theorem dX3_first_5 : decode cX3_first 5 = .ok (.aload_n 0, 1) := by decide +kernel
theorem dX3_first_6 : decode cX3_first 6 = .ok (.getfield 32, 3) := by decide +kernel
theorem dX3_first_9 : decode cX3_first 9 = .ok (.if_icmp .ge 35, 3) := by decide +kernel
theorem dX3_first_12 : decode cX3_first 12 = .ok (.iload_n 1, 1) := by decide +kernel
theorem dX3_first_13 : decode cX3_first 13 = .ok (.iconst (-1), 1) := by decide +kernel
theorem dX3_first_14 : decode cX3_first 14 = .ok (.if_icmp .eq 22, 3) := by decide +kernel
theorem dX3_first_17 : decode cX3_first 17 = .ok (.aload_n 0, 1) := by decide +kernel
theorem dX3_first_18 : decode cX3_first 18 = .ok (.getfield 22, 3) := by decide +kernel
theorem dX3_first_21 : decode cX3_first 21 = .ok (.iconst 1, 1) := by decide +kernel
theorem dX3_first_22 : decode cX3_first 22 = .ok (.iload_n 2, 1) := by decide +kernel
theorem dX3_first_23 : decode cX3_first 23 = .ok (.iadd, 1) := by decide +kernel
theorem dX3_first_24 : decode cX3_first 24 = .ok (.iaload, 1) := by decide +kernel
theorem dX3_first_25 : decode cX3_first 25 = .ok (.aload_n 0, 1) := by decide +kernel
theorem dX3_first_26 : decode cX3_first 26 = .ok (.getfield 22, 3) := by decide +kernel
theorem dX3_first_29 : decode cX3_first 29 = .ok (.iconst 1, 1) := by decide +kernel
theorem dX3_first_30 : decode cX3_first 30 = .ok (.iload_n 1, 1) := by decide +kernel
theorem dX3_first_31 : decode cX3_first 31 = .ok (.iadd, 1) := by decide +kernel
theorem dX3_first_32 : decode cX3_first 32 = .ok (.iaload, 1) := by decide +kernel
theorem dX3_first_33 : decode cX3_first 33 = .ok (.if_icmp .le 5, 3) := by decide +kernel
theorem dX3_first_36 : decode cX3_first 36 = .ok (.iload_n 2, 1) := by decide +kernel
theorem dX3_first_37 : decode cX3_first 37 = .ok (.istore_n 1, 1) := by decide +kernel
theorem dX3_first_38 : decode cX3_first 38 = .ok (.iinc 2 1, 3) := by decide +kernel
theorem dX3_first_41 : decode cX3_first 41 = .ok (.goto (-37), 3) := by decide +kernel
theorem dX3_first_44 : decode cX3_first 44 = .ok (.iload_n 1, 1) := by decide +kernel
theorem dX3_first_45 : decode cX3_first 45 = .ok (.ireturn, 1) := by decide +kernel
theorem dX3_best_0 : decode cX3_best 0 = .ok (.iconst 0, 1) := by decide +kernel
theorem dX3_best_1 : decode cX3_best 1 = .ok (.istore_n 1, 1) := by decide +kernel
theorem dX3_best_2 : decode cX3_best 2 = .ok (.iconst 0, 1) := by decide +kernel
theorem dX3_best_3 : decode cX3_best 3 = .ok (.istore_n 2, 1) := by decide +kernel
theorem dX3_best_4 : decode cX3_best 4 = .ok (.iload_n 2, 1) := by decide +kernel
theorem dX3_best_5 : decode cX3_best 5 = .ok (.aload_n 0, 1) := by decide +kernel
theorem dX3_best_6 : decode cX3_best 6 = .ok (.getfield 32, 3) := by decide +kernel
theorem dX3_best_9 : decode cX3_best 9 = .ok (.if_icmp .ge 37, 3) := by decide +kernel
theorem dX3_best_12 : decode cX3_best 12 = .ok (.aload_n 0, 1) := by decide +kernel
theorem dX3_best_13 : decode cX3_best 13 = .ok (.getfield 22, 3) := by decide +kernel
theorem dX3_best_16 : decode cX3_best 16 = .ok (.iconst 1, 1) := by decide +kernel
theorem dX3_best_17 : decode cX3_best 17 = .ok (.iload_n 2, 1) := by decide +kernel
theorem dX3_best_18 : decode cX3_best 18 = .ok (.iadd, 1) := by decide +kernel
theorem dX3_best_19 : decode cX3_best 19 = .ok (.iaload, 1) := by decide +kernel
theorem dX3_best_20 : decode cX3_best 20 = .ok (.aload_n 0, 1) := by decide +kernel
theorem dX3_best_21 : decode cX3_best 21 = .ok (.getfield 22, 3) := by decide +kernel
theorem dX3_best_24 : decode cX3_best 24 = .ok (.iconst 1, 1) := by decide +kernel
theorem dX3_best_25 : decode cX3_best 25 = .ok (.aload_n 0, 1) := by decide +kernel
theorem dX3_best_26 : decode cX3_best 26 = .ok (.invokevirtual 78, 3) := by decide +kernel
theorem dX3_best_29 : decode cX3_best 29 = .ok (.iadd, 1) := by decide +kernel
theorem dX3_best_30 : decode cX3_best 30 = .ok (.iaload, 1) := by decide +kernel
theorem dX3_best_31 : decode cX3_best 31 = .ok (.if_icmp .ne 9, 3) := by decide +kernel
theorem dX3_best_34 : decode cX3_best 34 = .ok (.iload_n 1, 1) := by decide +kernel
theorem dX3_best_35 : decode cX3_best 35 = .ok (.iconst 1, 1) := by decide +kernel
theorem dX3_best_36 : decode cX3_best 36 = .ok (.iload_n 2, 1) := by decide +kernel
theorem dX3_best_37 : decode cX3_best 37 = .ok (.ishl, 1) := by decide +kernel
theorem dX3_best_38 : decode cX3_best 38 = .ok (.ior, 1) := by decide +kernel
theorem dX3_best_39 : decode cX3_best 39 = .ok (.istore_n 1, 1) := by decide +kernel
theorem dX3_best_40 : decode cX3_best 40 = .ok (.iinc 2 1, 3) := by decide +kernel
theorem dX3_best_43 : decode cX3_best 43 = .ok (.goto (-39), 3) := by decide +kernel
theorem dX3_best_46 : decode cX3_best 46 = .ok (.iload_n 1, 1) := by decide +kernel
theorem dX3_best_47 : decode cX3_best 47 = .ok (.ireturn, 1) := by decide +kernel
theorem dX3_win_0 : decode cX3_win 0 = .ok (.aload_n 0, 1) := by decide +kernel
theorem dX3_win_1 : decode cX3_win 1 = .ok (.invokevirtual 81, 3) := by decide +kernel
theorem dX3_win_4 : decode cX3_win 4 = .ok (.istore_n 1, 1) := by decide +kernel
theorem dX3_win_5 : decode cX3_win 5 = .ok (.iconst 1, 1) := by decide +kernel
theorem dX3_win_6 : decode cX3_win 6 = .ok (.istore_n 2, 1) := by decide +kernel
theorem dX3_win_7 : decode cX3_win 7 = .ok (.iload_n 2, 1) := by decide +kernel
theorem dX3_win_8 : decode cX3_win 8 = .ok (.bipush 9, 2) := by decide +kernel
theorem dX3_win_10 : decode cX3_win 10 = .ok (.if_icmp .gt 113, 3) := by decide +kernel
theorem dX3_win_13 : decode cX3_win 13 = .ok (.iload_n 1, 1) := by decide +kernel
theorem dX3_win_14 : decode cX3_win 14 = .ok (.invokestatic 84, 3) := by decide +kernel
theorem dX3_win_17 : decode cX3_win 17 = .ok (.iconst 1, 1) := by decide +kernel
theorem dX3_win_18 : decode cX3_win 18 = .ok (.if_icmp .le 105, 3) := by decide +kernel
theorem dX3_win_21 : decode cX3_win 21 = .ok (.iconst 0, 1) := by decide +kernel
theorem dX3_win_22 : decode cX3_win 22 = .ok (.istore_n 3, 1) := by decide +kernel
theorem dX3_win_23 : decode cX3_win 23 = .ok (.iconst 0, 1) := by decide +kernel
theorem dX3_win_24 : decode cX3_win 24 = .ok (.istore 4, 2) := by decide +kernel
theorem dX3_win_26 : decode cX3_win 26 = .ok (.iload 4, 2) := by decide +kernel
theorem dX3_win_28 : decode cX3_win 28 = .ok (.aload_n 0, 1) := by decide +kernel
theorem dX3_win_29 : decode cX3_win 29 = .ok (.getfield 32, 3) := by decide +kernel
theorem dX3_win_32 : decode cX3_win 32 = .ok (.if_icmp .ge 75, 3) := by decide +kernel
theorem dX3_win_35 : decode cX3_win 35 = .ok (.iload_n 1, 1) := by decide +kernel
theorem dX3_win_36 : decode cX3_win 36 = .ok (.iload 4, 2) := by decide +kernel
theorem dX3_win_38 : decode cX3_win 38 = .ok (.ishr, 1) := by decide +kernel
theorem dX3_win_39 : decode cX3_win 39 = .ok (.iconst 1, 1) := by decide +kernel
theorem dX3_win_40 : decode cX3_win 40 = .ok (.iand, 1) := by decide +kernel
theorem dX3_win_41 : decode cX3_win 41 = .ok (.ifCond .ne 6, 3) := by decide +kernel
theorem dX3_win_44 : decode cX3_win 44 = .ok (.goto 57, 3) := by decide +kernel
theorem dX3_win_47 : decode cX3_win 47 = .ok (.bipush 6, 2) := by decide +kernel
theorem dX3_win_49 : decode cX3_win 49 = .ok (.iload_n 2, 1) := by decide +kernel
theorem dX3_win_50 : decode cX3_win 50 = .ok (.imul, 1) := by decide +kernel
theorem dX3_win_51 : decode cX3_win 51 = .ok (.aload_n 0, 1) := by decide +kernel
theorem dX3_win_52 : decode cX3_win 52 = .ok (.getfield 22, 3) := by decide +kernel
theorem dX3_win_55 : decode cX3_win 55 = .ok (.bipush 19, 2) := by decide +kernel
theorem dX3_win_57 : decode cX3_win 57 = .ok (.iload 4, 2) := by decide +kernel
theorem dX3_win_59 : decode cX3_win 59 = .ok (.iadd, 1) := by decide +kernel
theorem dX3_win_60 : decode cX3_win 60 = .ok (.iaload, 1) := by decide +kernel
theorem dX3_win_61 : decode cX3_win 61 = .ok (.aload_n 0, 1) := by decide +kernel
theorem dX3_win_62 : decode cX3_win 62 = .ok (.getfield 13, 3) := by decide +kernel
theorem dX3_win_65 : decode cX3_win 65 = .ok (.iload 4, 2) := by decide +kernel
theorem dX3_win_67 : decode cX3_win 67 = .ok (.iaload, 1) := by decide +kernel
theorem dX3_win_68 : decode cX3_win 68 = .ok (.idiv, 1) := by decide +kernel
theorem dX3_win_69 : decode cX3_win 69 = .ok (.iadd, 1) := by decide +kernel
theorem dX3_win_70 : decode cX3_win 70 = .ok (.aload_n 0, 1) := by decide +kernel
theorem dX3_win_71 : decode cX3_win 71 = .ok (.getfield 9, 3) := by decide +kernel
theorem dX3_win_74 : decode cX3_win 74 = .ok (.iload 4, 2) := by decide +kernel
theorem dX3_win_76 : decode cX3_win 76 = .ok (.iaload, 1) := by decide +kernel
theorem dX3_win_77 : decode cX3_win 77 = .ok (.if_icmp .gt 10, 3) := by decide +kernel
theorem dX3_win_80 : decode cX3_win 80 = .ok (.iload_n 3, 1) := by decide +kernel
theorem dX3_win_81 : decode cX3_win 81 = .ok (.iconst 1, 1) := by decide +kernel
theorem dX3_win_82 : decode cX3_win 82 = .ok (.iload 4, 2) := by decide +kernel
theorem dX3_win_84 : decode cX3_win 84 = .ok (.ishl, 1) := by decide +kernel
theorem dX3_win_85 : decode cX3_win 85 = .ok (.ior, 1) := by decide +kernel
theorem dX3_win_86 : decode cX3_win 86 = .ok (.istore_n 3, 1) := by decide +kernel
theorem dX3_win_87 : decode cX3_win 87 = .ok (.aload_n 0, 1) := by decide +kernel
theorem dX3_win_88 : decode cX3_win 88 = .ok (.getfield 22, 3) := by decide +kernel
theorem dX3_win_91 : decode cX3_win 91 = .ok (.bipush 19, 2) := by decide +kernel
theorem dX3_win_93 : decode cX3_win 93 = .ok (.iload 4, 2) := by decide +kernel
theorem dX3_win_95 : decode cX3_win 95 = .ok (.iadd, 1) := by decide +kernel
theorem dX3_win_96 : decode cX3_win 96 = .ok (.dup2, 1) := by decide +kernel
theorem dX3_win_97 : decode cX3_win 97 = .ok (.iaload, 1) := by decide +kernel
theorem dX3_win_98 : decode cX3_win 98 = .ok (.iconst 1, 1) := by decide +kernel
theorem dX3_win_99 : decode cX3_win 99 = .ok (.iadd, 1) := by decide +kernel
theorem dX3_win_100 : decode cX3_win 100 = .ok (.iastore, 1) := by decide +kernel
theorem dX3_win_101 : decode cX3_win 101 = .ok (.iinc 4 1, 3) := by decide +kernel
theorem dX3_win_104 : decode cX3_win 104 = .ok (.goto (-78), 3) := by decide +kernel
theorem dX3_win_107 : decode cX3_win 107 = .ok (.iload_n 3, 1) := by decide +kernel
theorem dX3_win_108 : decode cX3_win 108 = .ok (.ifCond .ne 7, 3) := by decide +kernel
theorem dX3_win_111 : decode cX3_win 111 = .ok (.iload_n 1, 1) := by decide +kernel
theorem dX3_win_112 : decode cX3_win 112 = .ok (.goto 4, 3) := by decide +kernel
theorem dX3_win_115 : decode cX3_win 115 = .ok (.iload_n 3, 1) := by decide +kernel
theorem dX3_win_116 : decode cX3_win 116 = .ok (.istore_n 1, 1) := by decide +kernel
theorem dX3_win_117 : decode cX3_win 117 = .ok (.iinc 2 1, 3) := by decide +kernel
theorem dX3_win_120 : decode cX3_win 120 = .ok (.goto (-113), 3) := by decide +kernel
theorem dX3_win_123 : decode cX3_win 123 = .ok (.iload_n 1, 1) := by decide +kernel
theorem dX3_win_124 : decode cX3_win 124 = .ok (.invokestatic 89, 3) := by decide +kernel
theorem dX3_win_127 : decode cX3_win 127 = .ok (.ireturn, 1) := by decide +kernel
theorem dX3_addGun_0 : decode cX3_addGun 0 = .ok (.aload_n 0, 1) := by decide +kernel
theorem dX3_addGun_1 : decode cX3_addGun 1 = .ok (.iconst 0, 1) := by decide +kernel
theorem dX3_addGun_2 : decode cX3_addGun 2 = .ok (.putfield 28, 3) := by decide +kernel
theorem dX3_addGun_5 : decode cX3_addGun 5 = .ok (.iload_n 1, 1) := by decide +kernel
theorem dX3_addGun_6 : decode cX3_addGun 6 = .ok (.iconst 5, 1) := by decide +kernel
theorem dX3_addGun_7 : decode cX3_addGun 7 = .ok (.bipush 60, 2) := by decide +kernel
theorem dX3_addGun_9 : decode cX3_addGun 9 = .ok (.invokestatic 35, 3) := by decide +kernel
theorem dX3_addGun_12 : decode cX3_addGun 12 = .ok (.ifCond .eq 13, 3) := by decide +kernel
theorem dX3_addGun_15 : decode cX3_addGun 15 = .ok (.iload_n 2, 1) := by decide +kernel
theorem dX3_addGun_16 : decode cX3_addGun 16 = .ok (.iconst 1, 1) := by decide +kernel
theorem dX3_addGun_17 : decode cX3_addGun 17 = .ok (.bipush 9, 2) := by decide +kernel
theorem dX3_addGun_19 : decode cX3_addGun 19 = .ok (.invokestatic 35, 3) := by decide +kernel
theorem dX3_addGun_22 : decode cX3_addGun 22 = .ok (.ifCond .ne 9, 3) := by decide +kernel
theorem dX3_addGun_25 : decode cX3_addGun 25 = .ok (.aload_n 0, 1) := by decide +kernel
theorem dX3_addGun_26 : decode cX3_addGun 26 = .ok (.iconst 1, 1) := by decide +kernel
theorem dX3_addGun_27 : decode cX3_addGun 27 = .ok (.invokevirtual 92, 3) := by decide +kernel
theorem dX3_addGun_30 : decode cX3_addGun 30 = .ok (.ireturn, 1) := by decide +kernel
theorem dX3_addGun_31 : decode cX3_addGun 31 = .ok (.aload_n 0, 1) := by decide +kernel
theorem dX3_addGun_32 : decode cX3_addGun 32 = .ok (.getfield 32, 3) := by decide +kernel
theorem dX3_addGun_35 : decode cX3_addGun 35 = .ok (.bipush 6, 2) := by decide +kernel
theorem dX3_addGun_37 : decode cX3_addGun 37 = .ok (.if_icmp .ne 9, 3) := by decide +kernel
theorem dX3_addGun_40 : decode cX3_addGun 40 = .ok (.aload_n 0, 1) := by decide +kernel
theorem dX3_addGun_41 : decode cX3_addGun 41 = .ok (.iconst 2, 1) := by decide +kernel
theorem dX3_addGun_42 : decode cX3_addGun 42 = .ok (.invokevirtual 92, 3) := by decide +kernel
theorem dX3_addGun_45 : decode cX3_addGun 45 = .ok (.ireturn, 1) := by decide +kernel
theorem dX3_addGun_46 : decode cX3_addGun 46 = .ok (.aload_n 0, 1) := by decide +kernel
theorem dX3_addGun_47 : decode cX3_addGun 47 = .ok (.getfield 9, 3) := by decide +kernel
theorem dX3_addGun_50 : decode cX3_addGun 50 = .ok (.aload_n 0, 1) := by decide +kernel
theorem dX3_addGun_51 : decode cX3_addGun 51 = .ok (.getfield 32, 3) := by decide +kernel
theorem dX3_addGun_54 : decode cX3_addGun 54 = .ok (.iload_n 1, 1) := by decide +kernel
theorem dX3_addGun_55 : decode cX3_addGun 55 = .ok (.iastore, 1) := by decide +kernel
theorem dX3_addGun_56 : decode cX3_addGun 56 = .ok (.aload_n 0, 1) := by decide +kernel
theorem dX3_addGun_57 : decode cX3_addGun 57 = .ok (.getfield 13, 3) := by decide +kernel
theorem dX3_addGun_60 : decode cX3_addGun 60 = .ok (.aload_n 0, 1) := by decide +kernel
theorem dX3_addGun_61 : decode cX3_addGun 61 = .ok (.getfield 32, 3) := by decide +kernel
theorem dX3_addGun_64 : decode cX3_addGun 64 = .ok (.iload_n 2, 1) := by decide +kernel
theorem dX3_addGun_65 : decode cX3_addGun 65 = .ok (.iastore, 1) := by decide +kernel
theorem dX3_addGun_66 : decode cX3_addGun 66 = .ok (.aload_n 0, 1) := by decide +kernel
theorem dX3_addGun_67 : decode cX3_addGun 67 = .ok (.dup, 1) := by decide +kernel
theorem dX3_addGun_68 : decode cX3_addGun 68 = .ok (.getfield 32, 3) := by decide +kernel
theorem dX3_addGun_71 : decode cX3_addGun 71 = .ok (.iconst 1, 1) := by decide +kernel
theorem dX3_addGun_72 : decode cX3_addGun 72 = .ok (.iadd, 1) := by decide +kernel
theorem dX3_addGun_73 : decode cX3_addGun 73 = .ok (.putfield 32, 3) := by decide +kernel
theorem dX3_addGun_76 : decode cX3_addGun 76 = .ok (.aload_n 0, 1) := by decide +kernel
theorem dX3_addGun_77 : decode cX3_addGun 77 = .ok (.getfield 32, 3) := by decide +kernel
theorem dX3_addGun_80 : decode cX3_addGun 80 = .ok (.iconst 1, 1) := by decide +kernel
theorem dX3_addGun_81 : decode cX3_addGun 81 = .ok (.isub, 1) := by decide +kernel
theorem dX3_addGun_82 : decode cX3_addGun 82 = .ok (.ireturn, 1) := by decide +kernel
theorem dX3_setTrap_0 : decode cX3_setTrap 0 = .ok (.aload_n 0, 1) := by decide +kernel
theorem dX3_setTrap_1 : decode cX3_setTrap 1 = .ok (.iconst 0, 1) := by decide +kernel
theorem dX3_setTrap_2 : decode cX3_setTrap 2 = .ok (.putfield 28, 3) := by decide +kernel
theorem dX3_setTrap_5 : decode cX3_setTrap 5 = .ok (.iload_n 1, 1) := by decide +kernel
theorem dX3_setTrap_6 : decode cX3_setTrap 6 = .ok (.iconst 0, 1) := by decide +kernel
theorem dX3_setTrap_7 : decode cX3_setTrap 7 = .ok (.iconst 4, 1) := by decide +kernel
theorem dX3_setTrap_8 : decode cX3_setTrap 8 = .ok (.invokestatic 35, 3) := by decide +kernel
theorem dX3_setTrap_11 : decode cX3_setTrap 11 = .ok (.ifCond .ne 9, 3) := by decide +kernel
theorem dX3_setTrap_14 : decode cX3_setTrap 14 = .ok (.aload_n 0, 1) := by decide +kernel
theorem dX3_setTrap_15 : decode cX3_setTrap 15 = .ok (.iconst 1, 1) := by decide +kernel
theorem dX3_setTrap_16 : decode cX3_setTrap 16 = .ok (.invokevirtual 92, 3) := by decide +kernel
theorem dX3_setTrap_19 : decode cX3_setTrap 19 = .ok (.ireturn, 1) := by decide +kernel
theorem dX3_setTrap_20 : decode cX3_setTrap 20 = .ok (.iload_n 2, 1) := by decide +kernel
theorem dX3_setTrap_21 : decode cX3_setTrap 21 = .ok (.bipush (-45), 2) := by decide +kernel
theorem dX3_setTrap_23 : decode cX3_setTrap 23 = .ok (.bipush 45, 2) := by decide +kernel
theorem dX3_setTrap_25 : decode cX3_setTrap 25 = .ok (.invokestatic 35, 3) := by decide +kernel
theorem dX3_setTrap_28 : decode cX3_setTrap 28 = .ok (.ifCond .eq 13, 3) := by decide +kernel
theorem dX3_setTrap_31 : decode cX3_setTrap 31 = .ok (.iload_n 3, 1) := by decide +kernel
theorem dX3_setTrap_32 : decode cX3_setTrap 32 = .ok (.iconst 0, 1) := by decide +kernel
theorem dX3_setTrap_33 : decode cX3_setTrap 33 = .ok (.bipush 45, 2) := by decide +kernel
theorem dX3_setTrap_35 : decode cX3_setTrap 35 = .ok (.invokestatic 35, 3) := by decide +kernel
theorem dX3_setTrap_38 : decode cX3_setTrap 38 = .ok (.ifCond .ne 9, 3) := by decide +kernel
theorem dX3_setTrap_41 : decode cX3_setTrap 41 = .ok (.aload_n 0, 1) := by decide +kernel
theorem dX3_setTrap_42 : decode cX3_setTrap 42 = .ok (.iconst 2, 1) := by decide +kernel
theorem dX3_setTrap_43 : decode cX3_setTrap 43 = .ok (.invokevirtual 92, 3) := by decide +kernel
theorem dX3_setTrap_46 : decode cX3_setTrap 46 = .ok (.ireturn, 1) := by decide +kernel
theorem dX3_setTrap_47 : decode cX3_setTrap 47 = .ok (.aload_n 0, 1) := by decide +kernel
theorem dX3_setTrap_48 : decode cX3_setTrap 48 = .ok (.getfield 16, 3) := by decide +kernel
theorem dX3_setTrap_51 : decode cX3_setTrap 51 = .ok (.iload_n 1, 1) := by decide +kernel
theorem dX3_setTrap_52 : decode cX3_setTrap 52 = .ok (.iaload, 1) := by decide +kernel
theorem dX3_setTrap_53 : decode cX3_setTrap 53 = .ok (.istore 4, 2) := by decide +kernel
theorem dX3_setTrap_55 : decode cX3_setTrap 55 = .ok (.aload_n 0, 1) := by decide +kernel
theorem dX3_setTrap_56 : decode cX3_setTrap 56 = .ok (.getfield 16, 3) := by decide +kernel
theorem dX3_setTrap_59 : decode cX3_setTrap 59 = .ok (.iload_n 1, 1) := by decide +kernel
theorem dX3_setTrap_60 : decode cX3_setTrap 60 = .ok (.iload_n 2, 1) := by decide +kernel
theorem dX3_setTrap_61 : decode cX3_setTrap 61 = .ok (.iastore, 1) := by decide +kernel
theorem dX3_setTrap_62 : decode cX3_setTrap 62 = .ok (.aload_n 0, 1) := by decide +kernel
theorem dX3_setTrap_63 : decode cX3_setTrap 63 = .ok (.getfield 19, 3) := by decide +kernel
theorem dX3_setTrap_66 : decode cX3_setTrap 66 = .ok (.iload_n 1, 1) := by decide +kernel
theorem dX3_setTrap_67 : decode cX3_setTrap 67 = .ok (.iload_n 3, 1) := by decide +kernel
theorem dX3_setTrap_68 : decode cX3_setTrap 68 = .ok (.iastore, 1) := by decide +kernel
theorem dX3_setTrap_69 : decode cX3_setTrap 69 = .ok (.iload 4, 2) := by decide +kernel
theorem dX3_setTrap_71 : decode cX3_setTrap 71 = .ok (.ireturn, 1) := by decide +kernel
theorem dX3_rest_0 : decode cX3_rest 0 = .ok (.aload_n 0, 1) := by decide +kernel
theorem dX3_rest_1 : decode cX3_rest 1 = .ok (.iconst 0, 1) := by decide +kernel
theorem dX3_rest_2 : decode cX3_rest 2 = .ok (.putfield 28, 3) := by decide +kernel
theorem dX3_rest_5 : decode cX3_rest 5 = .ok (.aload_n 0, 1) := by decide +kernel
theorem dX3_rest_6 : decode cX3_rest 6 = .ok (.iload_n 1, 1) := by decide +kernel
theorem dX3_rest_7 : decode cX3_rest 7 = .ok (.invokevirtual 95, 3) := by decide +kernel
theorem dX3_rest_10 : decode cX3_rest 10 = .ok (.ifCond .ne 9, 3) := by decide +kernel
theorem dX3_rest_13 : decode cX3_rest 13 = .ok (.aload_n 0, 1) := by decide +kernel
theorem dX3_rest_14 : decode cX3_rest 14 = .ok (.iconst 1, 1) := by decide +kernel
theorem dX3_rest_15 : decode cX3_rest 15 = .ok (.invokevirtual 92, 3) := by decide +kernel
theorem dX3_rest_18 : decode cX3_rest 18 = .ok (.ireturn, 1) := by decide +kernel
theorem dX3_rest_19 : decode cX3_rest 19 = .ok (.aload_n 0, 1) := by decide +kernel
theorem dX3_rest_20 : decode cX3_rest 20 = .ok (.getfield 22, 3) := by decide +kernel
theorem dX3_rest_23 : decode cX3_rest 23 = .ok (.bipush 19, 2) := by decide +kernel
theorem dX3_rest_25 : decode cX3_rest 25 = .ok (.iload_n 1, 1) := by decide +kernel
theorem dX3_rest_26 : decode cX3_rest 26 = .ok (.iadd, 1) := by decide +kernel
theorem dX3_rest_27 : decode cX3_rest 27 = .ok (.iaload, 1) := by decide +kernel
theorem dX3_rest_28 : decode cX3_rest 28 = .ok (.istore_n 2, 1) := by decide +kernel
theorem dX3_rest_29 : decode cX3_rest 29 = .ok (.aload_n 0, 1) := by decide +kernel
theorem dX3_rest_30 : decode cX3_rest 30 = .ok (.getfield 22, 3) := by decide +kernel
theorem dX3_rest_33 : decode cX3_rest 33 = .ok (.bipush 19, 2) := by decide +kernel
theorem dX3_rest_35 : decode cX3_rest 35 = .ok (.iload_n 1, 1) := by decide +kernel
theorem dX3_rest_36 : decode cX3_rest 36 = .ok (.iadd, 1) := by decide +kernel
theorem dX3_rest_37 : decode cX3_rest 37 = .ok (.iconst 0, 1) := by decide +kernel
theorem dX3_rest_38 : decode cX3_rest 38 = .ok (.iastore, 1) := by decide +kernel
theorem dX3_rest_39 : decode cX3_rest 39 = .ok (.iload_n 2, 1) := by decide +kernel
theorem dX3_rest_40 : decode cX3_rest 40 = .ok (.ireturn, 1) := by decide +kernel
theorem dX3_pass_0 : decode cX3_pass 0 = .ok (.aload_n 0, 1) := by decide +kernel
theorem dX3_pass_1 : decode cX3_pass 1 = .ok (.iconst 0, 1) := by decide +kernel
theorem dX3_pass_2 : decode cX3_pass 2 = .ok (.putfield 28, 3) := by decide +kernel
theorem dX3_pass_5 : decode cX3_pass 5 = .ok (.iload_n 1, 1) := by decide +kernel
theorem dX3_pass_6 : decode cX3_pass 6 = .ok (.iconst 1, 1) := by decide +kernel
theorem dX3_pass_7 : decode cX3_pass 7 = .ok (.bipush 50, 2) := by decide +kernel
theorem dX3_pass_9 : decode cX3_pass 9 = .ok (.invokestatic 35, 3) := by decide +kernel
theorem dX3_pass_12 : decode cX3_pass 12 = .ok (.ifCond .ne 9, 3) := by decide +kernel
theorem dX3_pass_15 : decode cX3_pass 15 = .ok (.aload_n 0, 1) := by decide +kernel
theorem dX3_pass_16 : decode cX3_pass 16 = .ok (.iconst 1, 1) := by decide +kernel
theorem dX3_pass_17 : decode cX3_pass 17 = .ok (.invokevirtual 92, 3) := by decide +kernel
theorem dX3_pass_20 : decode cX3_pass 20 = .ok (.ireturn, 1) := by decide +kernel
theorem dX3_pass_21 : decode cX3_pass 21 = .ok (.aload_n 0, 1) := by decide +kernel
theorem dX3_pass_22 : decode cX3_pass 22 = .ok (.invokevirtual 99, 3) := by decide +kernel
theorem dX3_pass_25 : decode cX3_pass 25 = .ok (.istore_n 2, 1) := by decide +kernel
theorem dX3_pass_26 : decode cX3_pass 26 = .ok (.aload_n 0, 1) := by decide +kernel
theorem dX3_pass_27 : decode cX3_pass 27 = .ok (.iload_n 1, 1) := by decide +kernel
theorem dX3_pass_28 : decode cX3_pass 28 = .ok (.invokevirtual 102, 3) := by decide +kernel
theorem dX3_pass_31 : decode cX3_pass 31 = .ok (.aload_n 0, 1) := by decide +kernel
theorem dX3_pass_32 : decode cX3_pass 32 = .ok (.invokevirtual 99, 3) := by decide +kernel
theorem dX3_pass_35 : decode cX3_pass 35 = .ok (.iload_n 2, 1) := by decide +kernel
theorem dX3_pass_36 : decode cX3_pass 36 = .ok (.isub, 1) := by decide +kernel
theorem dX3_pass_37 : decode cX3_pass 37 = .ok (.ireturn, 1) := by decide +kernel
theorem dX3_shootOff_0 : decode cX3_shootOff 0 = .ok (.aload_n 0, 1) := by decide +kernel
theorem dX3_shootOff_1 : decode cX3_shootOff 1 = .ok (.getfield 32, 3) := by decide +kernel
theorem dX3_shootOff_4 : decode cX3_shootOff 4 = .ok (.ifCond .ne 9, 3) := by decide +kernel
theorem dX3_shootOff_7 : decode cX3_shootOff 7 = .ok (.aload_n 0, 1) := by decide +kernel
theorem dX3_shootOff_8 : decode cX3_shootOff 8 = .ok (.iconst 1, 1) := by decide +kernel
theorem dX3_shootOff_9 : decode cX3_shootOff 9 = .ok (.invokevirtual 92, 3) := by decide +kernel
theorem dX3_shootOff_12 : decode cX3_shootOff 12 = .ok (.ireturn, 1) := by decide +kernel
theorem dX3_shootOff_13 : decode cX3_shootOff 13 = .ok (.aload_n 0, 1) := by decide +kernel
theorem dX3_shootOff_14 : decode cX3_shootOff 14 = .ok (.invokevirtual 105, 3) := by decide +kernel
theorem dX3_shootOff_17 : decode cX3_shootOff 17 = .ok (.istore_n 1, 1) := by decide +kernel
theorem dX3_shootOff_18 : decode cX3_shootOff 18 = .ok (.aload_n 0, 1) := by decide +kernel
theorem dX3_shootOff_19 : decode cX3_shootOff 19 = .ok (.getfield 22, 3) := by decide +kernel
theorem dX3_shootOff_22 : decode cX3_shootOff 22 = .ok (.iconst 1, 1) := by decide +kernel
theorem dX3_shootOff_23 : decode cX3_shootOff 23 = .ok (.iload_n 1, 1) := by decide +kernel
theorem dX3_shootOff_24 : decode cX3_shootOff 24 = .ok (.iadd, 1) := by decide +kernel
theorem dX3_shootOff_25 : decode cX3_shootOff 25 = .ok (.dup2, 1) := by decide +kernel
theorem dX3_shootOff_26 : decode cX3_shootOff 26 = .ok (.iaload, 1) := by decide +kernel
theorem dX3_shootOff_27 : decode cX3_shootOff 27 = .ok (.iconst 1, 1) := by decide +kernel
theorem dX3_shootOff_28 : decode cX3_shootOff 28 = .ok (.iadd, 1) := by decide +kernel
theorem dX3_shootOff_29 : decode cX3_shootOff 29 = .ok (.iastore, 1) := by decide +kernel
theorem dX3_shootOff_30 : decode cX3_shootOff 30 = .ok (.aload_n 0, 1) := by decide +kernel
theorem dX3_shootOff_31 : decode cX3_shootOff 31 = .ok (.iload_n 1, 1) := by decide +kernel
theorem dX3_shootOff_32 : decode cX3_shootOff 32 = .ok (.invokevirtual 108, 3) := by decide +kernel
theorem dX3_shootOff_35 : decode cX3_shootOff 35 = .ok (.ireturn, 1) := by decide +kernel
theorem dX3_turn_0 : decode cX3_turn 0 = .ok (.aload_n 0, 1) := by decide +kernel
theorem dX3_turn_1 : decode cX3_turn 1 = .ok (.aload_n 0, 1) := by decide +kernel
theorem dX3_turn_2 : decode cX3_turn 2 = .ok (.getfield 22, 3) := by decide +kernel
theorem dX3_turn_5 : decode cX3_turn 5 = .ok (.iconst 0, 1) := by decide +kernel
theorem dX3_turn_6 : decode cX3_turn 6 = .ok (.iaload, 1) := by decide +kernel
theorem dX3_turn_7 : decode cX3_turn 7 = .ok (.invokevirtual 108, 3) := by decide +kernel
theorem dX3_turn_10 : decode cX3_turn 10 = .ok (.ireturn, 1) := by decide +kernel
theorem dX3_angle_0 : decode cX3_angle 0 = .ok (.aload_n 0, 1) := by decide +kernel
theorem dX3_angle_1 : decode cX3_angle 1 = .ok (.iconst 0, 1) := by decide +kernel
theorem dX3_angle_2 : decode cX3_angle 2 = .ok (.putfield 28, 3) := by decide +kernel
theorem dX3_angle_5 : decode cX3_angle 5 = .ok (.iload_n 1, 1) := by decide +kernel
theorem dX3_angle_6 : decode cX3_angle 6 = .ok (.iconst 0, 1) := by decide +kernel
theorem dX3_angle_7 : decode cX3_angle 7 = .ok (.iconst 4, 1) := by decide +kernel
theorem dX3_angle_8 : decode cX3_angle 8 = .ok (.invokestatic 35, 3) := by decide +kernel
theorem dX3_angle_11 : decode cX3_angle 11 = .ok (.ifCond .eq 21, 3) := by decide +kernel
theorem dX3_angle_14 : decode cX3_angle 14 = .ok (.iload_n 2, 1) := by decide +kernel
theorem dX3_angle_15 : decode cX3_angle 15 = .ok (.iconst 0, 1) := by decide +kernel
theorem dX3_angle_16 : decode cX3_angle 16 = .ok (.iconst 4, 1) := by decide +kernel
theorem dX3_angle_17 : decode cX3_angle 17 = .ok (.invokestatic 35, 3) := by decide +kernel
theorem dX3_angle_20 : decode cX3_angle 20 = .ok (.ifCond .eq 12, 3) := by decide +kernel
theorem dX3_angle_23 : decode cX3_angle 23 = .ok (.aload_n 0, 1) := by decide +kernel
theorem dX3_angle_24 : decode cX3_angle 24 = .ok (.iload_n 1, 1) := by decide +kernel
theorem dX3_angle_25 : decode cX3_angle 25 = .ok (.iload_n 2, 1) := by decide +kernel
theorem dX3_angle_26 : decode cX3_angle 26 = .ok (.invokevirtual 53, 3) := by decide +kernel
theorem dX3_angle_29 : decode cX3_angle 29 = .ok (.goto 8, 3) := by decide +kernel
theorem dX3_angle_32 : decode cX3_angle 32 = .ok (.aload_n 0, 1) := by decide +kernel
theorem dX3_angle_33 : decode cX3_angle 33 = .ok (.iconst 1, 1) := by decide +kernel
theorem dX3_angle_34 : decode cX3_angle 34 = .ok (.invokevirtual 92, 3) := by decide +kernel
theorem dX3_angle_37 : decode cX3_angle 37 = .ok (.ireturn, 1) := by decide +kernel
theorem dX3_hardest_0 : decode cX3_hardest 0 = .ok (.iconst 0, 1) := by decide +kernel
theorem dX3_hardest_1 : decode cX3_hardest 1 = .ok (.istore_n 2, 1) := by decide +kernel
theorem dX3_hardest_2 : decode cX3_hardest 2 = .ok (.iconst 1, 1) := by decide +kernel
theorem dX3_hardest_3 : decode cX3_hardest 3 = .ok (.istore_n 3, 1) := by decide +kernel
theorem dX3_hardest_4 : decode cX3_hardest 4 = .ok (.iload_n 3, 1) := by decide +kernel
theorem dX3_hardest_5 : decode cX3_hardest 5 = .ok (.iconst 5, 1) := by decide +kernel
theorem dX3_hardest_6 : decode cX3_hardest 6 = .ok (.if_icmp .ge 32, 3) := by decide +kernel
theorem dX3_hardest_9 : decode cX3_hardest 9 = .ok (.aload_n 0, 1) := by decide +kernel
theorem dX3_hardest_10 : decode cX3_hardest 10 = .ok (.iload_n 1, 1) := by decide +kernel
theorem dX3_hardest_11 : decode cX3_hardest 11 = .ok (.iload_n 3, 1) := by decide +kernel
theorem dX3_hardest_12 : decode cX3_hardest 12 = .ok (.invokevirtual 53, 3) := by decide +kernel
theorem dX3_hardest_15 : decode cX3_hardest 15 = .ok (.invokestatic 57, 3) := by decide +kernel
theorem dX3_hardest_18 : decode cX3_hardest 18 = .ok (.aload_n 0, 1) := by decide +kernel
theorem dX3_hardest_19 : decode cX3_hardest 19 = .ok (.iload_n 1, 1) := by decide +kernel
theorem dX3_hardest_20 : decode cX3_hardest 20 = .ok (.iload_n 2, 1) := by decide +kernel
theorem dX3_hardest_21 : decode cX3_hardest 21 = .ok (.invokevirtual 53, 3) := by decide +kernel
theorem dX3_hardest_24 : decode cX3_hardest 24 = .ok (.invokestatic 57, 3) := by decide +kernel
theorem dX3_hardest_27 : decode cX3_hardest 27 = .ok (.if_icmp .le 5, 3) := by decide +kernel
theorem dX3_hardest_30 : decode cX3_hardest 30 = .ok (.iload_n 3, 1) := by decide +kernel
theorem dX3_hardest_31 : decode cX3_hardest 31 = .ok (.istore_n 2, 1) := by decide +kernel
theorem dX3_hardest_32 : decode cX3_hardest 32 = .ok (.iinc 3 1, 3) := by decide +kernel
theorem dX3_hardest_35 : decode cX3_hardest 35 = .ok (.goto (-31), 3) := by decide +kernel
theorem dX3_hardest_38 : decode cX3_hardest 38 = .ok (.iload_n 2, 1) := by decide +kernel
theorem dX3_hardest_39 : decode cX3_hardest 39 = .ok (.ireturn, 1) := by decide +kernel
theorem dX3_hardestClay_0 : decode cX3_hardestClay 0 = .ok (.aload_n 0, 1) := by decide +kernel
theorem dX3_hardestClay_1 : decode cX3_hardestClay 1 = .ok (.iconst 0, 1) := by decide +kernel
theorem dX3_hardestClay_2 : decode cX3_hardestClay 2 = .ok (.putfield 28, 3) := by decide +kernel
theorem dX3_hardestClay_5 : decode cX3_hardestClay 5 = .ok (.iload_n 1, 1) := by decide +kernel
theorem dX3_hardestClay_6 : decode cX3_hardestClay 6 = .ok (.iconst 0, 1) := by decide +kernel
theorem dX3_hardestClay_7 : decode cX3_hardestClay 7 = .ok (.iconst 4, 1) := by decide +kernel
theorem dX3_hardestClay_8 : decode cX3_hardestClay 8 = .ok (.invokestatic 35, 3) := by decide +kernel
theorem dX3_hardestClay_11 : decode cX3_hardestClay 11 = .ok (.ifCond .eq 11, 3) := by decide +kernel
theorem dX3_hardestClay_14 : decode cX3_hardestClay 14 = .ok (.aload_n 0, 1) := by decide +kernel
theorem dX3_hardestClay_15 : decode cX3_hardestClay 15 = .ok (.iload_n 1, 1) := by decide +kernel
theorem dX3_hardestClay_16 : decode cX3_hardestClay 16 = .ok (.invokevirtual 111, 3) := by decide +kernel
theorem dX3_hardestClay_19 : decode cX3_hardestClay 19 = .ok (.goto 8, 3) := by decide +kernel
theorem dX3_hardestClay_22 : decode cX3_hardestClay 22 = .ok (.aload_n 0, 1) := by decide +kernel
theorem dX3_hardestClay_23 : decode cX3_hardestClay 23 = .ok (.iconst 1, 1) := by decide +kernel
theorem dX3_hardestClay_24 : decode cX3_hardestClay 24 = .ok (.invokevirtual 92, 3) := by decide +kernel
theorem dX3_hardestClay_27 : decode cX3_hardestClay 27 = .ok (.ireturn, 1) := by decide +kernel
theorem dX3_standOf_0 : decode cX3_standOf 0 = .ok (.aload_n 0, 1) := by decide +kernel
theorem dX3_standOf_1 : decode cX3_standOf 1 = .ok (.iconst 0, 1) := by decide +kernel
theorem dX3_standOf_2 : decode cX3_standOf 2 = .ok (.putfield 28, 3) := by decide +kernel
theorem dX3_standOf_5 : decode cX3_standOf 5 = .ok (.aload_n 0, 1) := by decide +kernel
theorem dX3_standOf_6 : decode cX3_standOf 6 = .ok (.iload_n 1, 1) := by decide +kernel
theorem dX3_standOf_7 : decode cX3_standOf 7 = .ok (.invokevirtual 95, 3) := by decide +kernel
theorem dX3_standOf_10 : decode cX3_standOf 10 = .ok (.ifCond .eq 11, 3) := by decide +kernel
theorem dX3_standOf_13 : decode cX3_standOf 13 = .ok (.aload_n 0, 1) := by decide +kernel
theorem dX3_standOf_14 : decode cX3_standOf 14 = .ok (.iload_n 1, 1) := by decide +kernel
theorem dX3_standOf_15 : decode cX3_standOf 15 = .ok (.invokevirtual 45, 3) := by decide +kernel
theorem dX3_standOf_18 : decode cX3_standOf 18 = .ok (.goto 8, 3) := by decide +kernel
theorem dX3_standOf_21 : decode cX3_standOf 21 = .ok (.aload_n 0, 1) := by decide +kernel
theorem dX3_standOf_22 : decode cX3_standOf 22 = .ok (.iconst 1, 1) := by decide +kernel
theorem dX3_standOf_23 : decode cX3_standOf 23 = .ok (.invokevirtual 92, 3) := by decide +kernel
theorem dX3_standOf_26 : decode cX3_standOf 26 = .ok (.ireturn, 1) := by decide +kernel
theorem dX3_angleFor_0 : decode cX3_angleFor 0 = .ok (.aload_n 0, 1) := by decide +kernel
theorem dX3_angleFor_1 : decode cX3_angleFor 1 = .ok (.iconst 0, 1) := by decide +kernel
theorem dX3_angleFor_2 : decode cX3_angleFor 2 = .ok (.putfield 28, 3) := by decide +kernel
theorem dX3_angleFor_5 : decode cX3_angleFor 5 = .ok (.aload_n 0, 1) := by decide +kernel
theorem dX3_angleFor_6 : decode cX3_angleFor 6 = .ok (.iload_n 1, 1) := by decide +kernel
theorem dX3_angleFor_7 : decode cX3_angleFor 7 = .ok (.invokevirtual 95, 3) := by decide +kernel
theorem dX3_angleFor_10 : decode cX3_angleFor 10 = .ok (.ifCond .eq 19, 3) := by decide +kernel
theorem dX3_angleFor_13 : decode cX3_angleFor 13 = .ok (.aload_n 0, 1) := by decide +kernel
theorem dX3_angleFor_14 : decode cX3_angleFor 14 = .ok (.aload_n 0, 1) := by decide +kernel
theorem dX3_angleFor_15 : decode cX3_angleFor 15 = .ok (.iload_n 1, 1) := by decide +kernel
theorem dX3_angleFor_16 : decode cX3_angleFor 16 = .ok (.invokevirtual 45, 3) := by decide +kernel
theorem dX3_angleFor_19 : decode cX3_angleFor 19 = .ok (.aload_n 0, 1) := by decide +kernel
theorem dX3_angleFor_20 : decode cX3_angleFor 20 = .ok (.invokevirtual 49, 3) := by decide +kernel
theorem dX3_angleFor_23 : decode cX3_angleFor 23 = .ok (.invokevirtual 53, 3) := by decide +kernel
theorem dX3_angleFor_26 : decode cX3_angleFor 26 = .ok (.goto 8, 3) := by decide +kernel
theorem dX3_angleFor_29 : decode cX3_angleFor 29 = .ok (.aload_n 0, 1) := by decide +kernel
theorem dX3_angleFor_30 : decode cX3_angleFor 30 = .ok (.iconst 1, 1) := by decide +kernel
theorem dX3_angleFor_31 : decode cX3_angleFor 31 = .ok (.invokevirtual 92, 3) := by decide +kernel
theorem dX3_angleFor_34 : decode cX3_angleFor 34 = .ok (.ireturn, 1) := by decide +kernel
theorem dX3_guns_0 : decode cX3_guns 0 = .ok (.aload_n 0, 1) := by decide +kernel
theorem dX3_guns_1 : decode cX3_guns 1 = .ok (.aload_n 0, 1) := by decide +kernel
theorem dX3_guns_2 : decode cX3_guns 2 = .ok (.getfield 32, 3) := by decide +kernel
theorem dX3_guns_5 : decode cX3_guns 5 = .ok (.invokevirtual 108, 3) := by decide +kernel
theorem dX3_guns_8 : decode cX3_guns 8 = .ok (.ireturn, 1) := by decide +kernel
theorem dX3_ofGun_0 : decode cX3_ofGun 0 = .ok (.aload_n 0, 1) := by decide +kernel
theorem dX3_ofGun_1 : decode cX3_ofGun 1 = .ok (.iconst 0, 1) := by decide +kernel
theorem dX3_ofGun_2 : decode cX3_ofGun 2 = .ok (.putfield 28, 3) := by decide +kernel
theorem dX3_ofGun_5 : decode cX3_ofGun 5 = .ok (.aload_n 0, 1) := by decide +kernel
theorem dX3_ofGun_6 : decode cX3_ofGun 6 = .ok (.iload_n 1, 1) := by decide +kernel
theorem dX3_ofGun_7 : decode cX3_ofGun 7 = .ok (.invokevirtual 95, 3) := by decide +kernel
theorem dX3_ofGun_10 : decode cX3_ofGun 10 = .ok (.ifCond .eq 14, 3) := by decide +kernel
theorem dX3_ofGun_13 : decode cX3_ofGun 13 = .ok (.aload_n 0, 1) := by decide +kernel
theorem dX3_ofGun_14 : decode cX3_ofGun 14 = .ok (.getfield 22, 3) := by decide +kernel
theorem dX3_ofGun_17 : decode cX3_ofGun 17 = .ok (.iload_n 2, 1) := by decide +kernel
theorem dX3_ofGun_18 : decode cX3_ofGun 18 = .ok (.iload_n 1, 1) := by decide +kernel
theorem dX3_ofGun_19 : decode cX3_ofGun 19 = .ok (.iadd, 1) := by decide +kernel
theorem dX3_ofGun_20 : decode cX3_ofGun 20 = .ok (.iaload, 1) := by decide +kernel
theorem dX3_ofGun_21 : decode cX3_ofGun 21 = .ok (.goto 8, 3) := by decide +kernel
theorem dX3_ofGun_24 : decode cX3_ofGun 24 = .ok (.aload_n 0, 1) := by decide +kernel
theorem dX3_ofGun_25 : decode cX3_ofGun 25 = .ok (.iconst 1, 1) := by decide +kernel
theorem dX3_ofGun_26 : decode cX3_ofGun 26 = .ok (.invokevirtual 92, 3) := by decide +kernel
theorem dX3_ofGun_29 : decode cX3_ofGun 29 = .ok (.ireturn, 1) := by decide +kernel
theorem dX3_scoreOf_0 : decode cX3_scoreOf 0 = .ok (.aload_n 0, 1) := by decide +kernel
theorem dX3_scoreOf_1 : decode cX3_scoreOf 1 = .ok (.iload_n 1, 1) := by decide +kernel
theorem dX3_scoreOf_2 : decode cX3_scoreOf 2 = .ok (.iconst 1, 1) := by decide +kernel
theorem dX3_scoreOf_3 : decode cX3_scoreOf 3 = .ok (.invokevirtual 114, 3) := by decide +kernel
theorem dX3_scoreOf_6 : decode cX3_scoreOf 6 = .ok (.ireturn, 1) := by decide +kernel
theorem dX3_firstsOf_0 : decode cX3_firstsOf 0 = .ok (.aload_n 0, 1) := by decide +kernel
theorem dX3_firstsOf_1 : decode cX3_firstsOf 1 = .ok (.iload_n 1, 1) := by decide +kernel
theorem dX3_firstsOf_2 : decode cX3_firstsOf 2 = .ok (.bipush 7, 2) := by decide +kernel
theorem dX3_firstsOf_4 : decode cX3_firstsOf 4 = .ok (.invokevirtual 114, 3) := by decide +kernel
theorem dX3_firstsOf_7 : decode cX3_firstsOf 7 = .ok (.ireturn, 1) := by decide +kernel
theorem dX3_missesOf_0 : decode cX3_missesOf 0 = .ok (.aload_n 0, 1) := by decide +kernel
theorem dX3_missesOf_1 : decode cX3_missesOf 1 = .ok (.iload_n 1, 1) := by decide +kernel
theorem dX3_missesOf_2 : decode cX3_missesOf 2 = .ok (.bipush 13, 2) := by decide +kernel
theorem dX3_missesOf_4 : decode cX3_missesOf 4 = .ok (.invokevirtual 114, 3) := by decide +kernel
theorem dX3_missesOf_7 : decode cX3_missesOf 7 = .ok (.ireturn, 1) := by decide +kernel
theorem dX3_fatigueOf_0 : decode cX3_fatigueOf 0 = .ok (.aload_n 0, 1) := by decide +kernel
theorem dX3_fatigueOf_1 : decode cX3_fatigueOf 1 = .ok (.iload_n 1, 1) := by decide +kernel
theorem dX3_fatigueOf_2 : decode cX3_fatigueOf 2 = .ok (.bipush 19, 2) := by decide +kernel
theorem dX3_fatigueOf_4 : decode cX3_fatigueOf 4 = .ok (.invokevirtual 114, 3) := by decide +kernel
theorem dX3_fatigueOf_7 : decode cX3_fatigueOf 7 = .ok (.ireturn, 1) := by decide +kernel
theorem dX3_wouldHit_0 : decode cX3_wouldHit 0 = .ok (.aload_n 0, 1) := by decide +kernel
theorem dX3_wouldHit_1 : decode cX3_wouldHit 1 = .ok (.iconst 0, 1) := by decide +kernel
theorem dX3_wouldHit_2 : decode cX3_wouldHit 2 = .ok (.putfield 28, 3) := by decide +kernel
theorem dX3_wouldHit_5 : decode cX3_wouldHit 5 = .ok (.aload_n 0, 1) := by decide +kernel
theorem dX3_wouldHit_6 : decode cX3_wouldHit 6 = .ok (.iload_n 1, 1) := by decide +kernel
theorem dX3_wouldHit_7 : decode cX3_wouldHit 7 = .ok (.invokevirtual 95, 3) := by decide +kernel
theorem dX3_wouldHit_10 : decode cX3_wouldHit 10 = .ok (.ifCond .eq 11, 3) := by decide +kernel
theorem dX3_wouldHit_13 : decode cX3_wouldHit 13 = .ok (.aload_n 0, 1) := by decide +kernel
theorem dX3_wouldHit_14 : decode cX3_wouldHit 14 = .ok (.iload_n 1, 1) := by decide +kernel
theorem dX3_wouldHit_15 : decode cX3_wouldHit 15 = .ok (.invokevirtual 65, 3) := by decide +kernel
theorem dX3_wouldHit_18 : decode cX3_wouldHit 18 = .ok (.goto 8, 3) := by decide +kernel
theorem dX3_wouldHit_21 : decode cX3_wouldHit 21 = .ok (.aload_n 0, 1) := by decide +kernel
theorem dX3_wouldHit_22 : decode cX3_wouldHit 22 = .ok (.iconst 1, 1) := by decide +kernel
theorem dX3_wouldHit_23 : decode cX3_wouldHit 23 = .ok (.invokevirtual 92, 3) := by decide +kernel
theorem dX3_wouldHit_26 : decode cX3_wouldHit 26 = .ok (.ireturn, 1) := by decide +kernel
theorem dX3_leader_0 : decode cX3_leader 0 = .ok (.aload_n 0, 1) := by decide +kernel
theorem dX3_leader_1 : decode cX3_leader 1 = .ok (.aload_n 0, 1) := by decide +kernel
theorem dX3_leader_2 : decode cX3_leader 2 = .ok (.invokevirtual 78, 3) := by decide +kernel
theorem dX3_leader_5 : decode cX3_leader 5 = .ok (.invokevirtual 108, 3) := by decide +kernel
theorem dX3_leader_8 : decode cX3_leader 8 = .ok (.ireturn, 1) := by decide +kernel
theorem dX3_tied_0 : decode cX3_tied 0 = .ok (.aload_n 0, 1) := by decide +kernel
theorem dX3_tied_1 : decode cX3_tied 1 = .ok (.aload_n 0, 1) := by decide +kernel
theorem dX3_tied_2 : decode cX3_tied 2 = .ok (.invokevirtual 81, 3) := by decide +kernel
theorem dX3_tied_5 : decode cX3_tied 5 = .ok (.invokestatic 84, 3) := by decide +kernel
theorem dX3_tied_8 : decode cX3_tied 8 = .ok (.invokevirtual 108, 3) := by decide +kernel
theorem dX3_tied_11 : decode cX3_tied 11 = .ok (.ireturn, 1) := by decide +kernel
theorem dX3_rank_0 : decode cX3_rank 0 = .ok (.iconst 1, 1) := by decide +kernel
theorem dX3_rank_1 : decode cX3_rank 1 = .ok (.istore_n 2, 1) := by decide +kernel
theorem dX3_rank_2 : decode cX3_rank 2 = .ok (.iconst 0, 1) := by decide +kernel
theorem dX3_rank_3 : decode cX3_rank 3 = .ok (.istore_n 3, 1) := by decide +kernel
theorem dX3_rank_4 : decode cX3_rank 4 = .ok (.iload_n 3, 1) := by decide +kernel
theorem dX3_rank_5 : decode cX3_rank 5 = .ok (.aload_n 0, 1) := by decide +kernel
theorem dX3_rank_6 : decode cX3_rank 6 = .ok (.getfield 32, 3) := by decide +kernel
theorem dX3_rank_9 : decode cX3_rank 9 = .ok (.if_icmp .ge 36, 3) := by decide +kernel
theorem dX3_rank_12 : decode cX3_rank 12 = .ok (.iload_n 2, 1) := by decide +kernel
theorem dX3_rank_13 : decode cX3_rank 13 = .ok (.aload_n 0, 1) := by decide +kernel
theorem dX3_rank_14 : decode cX3_rank 14 = .ok (.getfield 22, 3) := by decide +kernel
theorem dX3_rank_17 : decode cX3_rank 17 = .ok (.iconst 1, 1) := by decide +kernel
theorem dX3_rank_18 : decode cX3_rank 18 = .ok (.iload_n 3, 1) := by decide +kernel
theorem dX3_rank_19 : decode cX3_rank 19 = .ok (.iadd, 1) := by decide +kernel
theorem dX3_rank_20 : decode cX3_rank 20 = .ok (.iaload, 1) := by decide +kernel
theorem dX3_rank_21 : decode cX3_rank 21 = .ok (.aload_n 0, 1) := by decide +kernel
theorem dX3_rank_22 : decode cX3_rank 22 = .ok (.getfield 22, 3) := by decide +kernel
theorem dX3_rank_25 : decode cX3_rank 25 = .ok (.iconst 1, 1) := by decide +kernel
theorem dX3_rank_26 : decode cX3_rank 26 = .ok (.iload_n 1, 1) := by decide +kernel
theorem dX3_rank_27 : decode cX3_rank 27 = .ok (.iadd, 1) := by decide +kernel
theorem dX3_rank_28 : decode cX3_rank 28 = .ok (.iaload, 1) := by decide +kernel
theorem dX3_rank_29 : decode cX3_rank 29 = .ok (.if_icmp .le 7, 3) := by decide +kernel
theorem dX3_rank_32 : decode cX3_rank 32 = .ok (.iconst 1, 1) := by decide +kernel
theorem dX3_rank_33 : decode cX3_rank 33 = .ok (.goto 4, 3) := by decide +kernel
theorem dX3_rank_36 : decode cX3_rank 36 = .ok (.iconst 0, 1) := by decide +kernel
theorem dX3_rank_37 : decode cX3_rank 37 = .ok (.iadd, 1) := by decide +kernel
theorem dX3_rank_38 : decode cX3_rank 38 = .ok (.istore_n 2, 1) := by decide +kernel
theorem dX3_rank_39 : decode cX3_rank 39 = .ok (.iinc 3 1, 3) := by decide +kernel
theorem dX3_rank_42 : decode cX3_rank 42 = .ok (.goto (-38), 3) := by decide +kernel
theorem dX3_rank_45 : decode cX3_rank 45 = .ok (.iload_n 2, 1) := by decide +kernel
theorem dX3_rank_46 : decode cX3_rank 46 = .ok (.ireturn, 1) := by decide +kernel
theorem dX3_rankOf_0 : decode cX3_rankOf 0 = .ok (.aload_n 0, 1) := by decide +kernel
theorem dX3_rankOf_1 : decode cX3_rankOf 1 = .ok (.iconst 0, 1) := by decide +kernel
theorem dX3_rankOf_2 : decode cX3_rankOf 2 = .ok (.putfield 28, 3) := by decide +kernel
theorem dX3_rankOf_5 : decode cX3_rankOf 5 = .ok (.aload_n 0, 1) := by decide +kernel
theorem dX3_rankOf_6 : decode cX3_rankOf 6 = .ok (.iload_n 1, 1) := by decide +kernel
theorem dX3_rankOf_7 : decode cX3_rankOf 7 = .ok (.invokevirtual 95, 3) := by decide +kernel
theorem dX3_rankOf_10 : decode cX3_rankOf 10 = .ok (.ifCond .eq 11, 3) := by decide +kernel
theorem dX3_rankOf_13 : decode cX3_rankOf 13 = .ok (.aload_n 0, 1) := by decide +kernel
theorem dX3_rankOf_14 : decode cX3_rankOf 14 = .ok (.iload_n 1, 1) := by decide +kernel
theorem dX3_rankOf_15 : decode cX3_rankOf 15 = .ok (.invokevirtual 117, 3) := by decide +kernel
theorem dX3_rankOf_18 : decode cX3_rankOf 18 = .ok (.goto 8, 3) := by decide +kernel
theorem dX3_rankOf_21 : decode cX3_rankOf 21 = .ok (.aload_n 0, 1) := by decide +kernel
theorem dX3_rankOf_22 : decode cX3_rankOf 22 = .ok (.iconst 1, 1) := by decide +kernel
theorem dX3_rankOf_23 : decode cX3_rankOf 23 = .ok (.invokevirtual 92, 3) := by decide +kernel
theorem dX3_rankOf_26 : decode cX3_rankOf 26 = .ok (.ireturn, 1) := by decide +kernel
theorem dX3_scoreIn_0 : decode cX3_scoreIn 0 = .ok (.aload_n 0, 1) := by decide +kernel
theorem dX3_scoreIn_1 : decode cX3_scoreIn 1 = .ok (.iconst 0, 1) := by decide +kernel
theorem dX3_scoreIn_2 : decode cX3_scoreIn 2 = .ok (.putfield 28, 3) := by decide +kernel
theorem dX3_scoreIn_5 : decode cX3_scoreIn 5 = .ok (.aload_n 0, 1) := by decide +kernel
theorem dX3_scoreIn_6 : decode cX3_scoreIn 6 = .ok (.iload_n 1, 1) := by decide +kernel
theorem dX3_scoreIn_7 : decode cX3_scoreIn 7 = .ok (.invokevirtual 95, 3) := by decide +kernel
theorem dX3_scoreIn_10 : decode cX3_scoreIn 10 = .ok (.ifCond .ne 9, 3) := by decide +kernel
theorem dX3_scoreIn_13 : decode cX3_scoreIn 13 = .ok (.aload_n 0, 1) := by decide +kernel
theorem dX3_scoreIn_14 : decode cX3_scoreIn 14 = .ok (.iconst 1, 1) := by decide +kernel
theorem dX3_scoreIn_15 : decode cX3_scoreIn 15 = .ok (.invokevirtual 92, 3) := by decide +kernel
theorem dX3_scoreIn_18 : decode cX3_scoreIn 18 = .ok (.ireturn, 1) := by decide +kernel
theorem dX3_scoreIn_19 : decode cX3_scoreIn 19 = .ok (.iload_n 2, 1) := by decide +kernel
theorem dX3_scoreIn_20 : decode cX3_scoreIn 20 = .ok (.iconst 1, 1) := by decide +kernel
theorem dX3_scoreIn_21 : decode cX3_scoreIn 21 = .ok (.bipush 50, 2) := by decide +kernel
theorem dX3_scoreIn_23 : decode cX3_scoreIn 23 = .ok (.invokestatic 35, 3) := by decide +kernel
theorem dX3_scoreIn_26 : decode cX3_scoreIn 26 = .ok (.ifCond .ne 9, 3) := by decide +kernel
theorem dX3_scoreIn_29 : decode cX3_scoreIn 29 = .ok (.aload_n 0, 1) := by decide +kernel
theorem dX3_scoreIn_30 : decode cX3_scoreIn 30 = .ok (.iconst 2, 1) := by decide +kernel
theorem dX3_scoreIn_31 : decode cX3_scoreIn 31 = .ok (.invokevirtual 92, 3) := by decide +kernel
theorem dX3_scoreIn_34 : decode cX3_scoreIn 34 = .ok (.ireturn, 1) := by decide +kernel
theorem dX3_scoreIn_35 : decode cX3_scoreIn 35 = .ok (.aload_n 0, 1) := by decide +kernel
theorem dX3_scoreIn_36 : decode cX3_scoreIn 36 = .ok (.invokevirtual 120, 3) := by decide +kernel
theorem dX3_scoreIn_39 : decode cX3_scoreIn 39 = .ok (.aload_n 0, 1) := by decide +kernel
theorem dX3_scoreIn_40 : decode cX3_scoreIn 40 = .ok (.iload_n 2, 1) := by decide +kernel
theorem dX3_scoreIn_41 : decode cX3_scoreIn 41 = .ok (.invokevirtual 102, 3) := by decide +kernel
theorem dX3_scoreIn_44 : decode cX3_scoreIn 44 = .ok (.aload_n 0, 1) := by decide +kernel
theorem dX3_scoreIn_45 : decode cX3_scoreIn 45 = .ok (.getfield 22, 3) := by decide +kernel
theorem dX3_scoreIn_48 : decode cX3_scoreIn 48 = .ok (.iconst 1, 1) := by decide +kernel
theorem dX3_scoreIn_49 : decode cX3_scoreIn 49 = .ok (.iload_n 1, 1) := by decide +kernel
theorem dX3_scoreIn_50 : decode cX3_scoreIn 50 = .ok (.iadd, 1) := by decide +kernel
theorem dX3_scoreIn_51 : decode cX3_scoreIn 51 = .ok (.iaload, 1) := by decide +kernel
theorem dX3_scoreIn_52 : decode cX3_scoreIn 52 = .ok (.istore_n 3, 1) := by decide +kernel
theorem dX3_scoreIn_53 : decode cX3_scoreIn 53 = .ok (.aload_n 0, 1) := by decide +kernel
theorem dX3_scoreIn_54 : decode cX3_scoreIn 54 = .ok (.invokevirtual 123, 3) := by decide +kernel
theorem dX3_scoreIn_57 : decode cX3_scoreIn 57 = .ok (.iload_n 3, 1) := by decide +kernel
theorem dX3_scoreIn_58 : decode cX3_scoreIn 58 = .ok (.ireturn, 1) := by decide +kernel
theorem dX3_untilMiss_0 : decode cX3_untilMiss 0 = .ok (.aload_n 0, 1) := by decide +kernel
theorem dX3_untilMiss_1 : decode cX3_untilMiss 1 = .ok (.invokevirtual 120, 3) := by decide +kernel
theorem dX3_untilMiss_4 : decode cX3_untilMiss 4 = .ok (.iconst (-1), 1) := by decide +kernel
theorem dX3_untilMiss_5 : decode cX3_untilMiss 5 = .ok (.istore_n 2, 1) := by decide +kernel
theorem dX3_untilMiss_6 : decode cX3_untilMiss 6 = .ok (.iconst 1, 1) := by decide +kernel
theorem dX3_untilMiss_7 : decode cX3_untilMiss 7 = .ok (.istore_n 3, 1) := by decide +kernel
theorem dX3_untilMiss_8 : decode cX3_untilMiss 8 = .ok (.iload_n 3, 1) := by decide +kernel
theorem dX3_untilMiss_9 : decode cX3_untilMiss 9 = .ok (.bipush 100, 2) := by decide +kernel
theorem dX3_untilMiss_11 : decode cX3_untilMiss 11 = .ok (.if_icmp .gt 41, 3) := by decide +kernel
theorem dX3_untilMiss_14 : decode cX3_untilMiss 14 = .ok (.iload_n 2, 1) := by decide +kernel
theorem dX3_untilMiss_15 : decode cX3_untilMiss 15 = .ok (.iconst (-1), 1) := by decide +kernel
theorem dX3_untilMiss_16 : decode cX3_untilMiss 16 = .ok (.if_icmp .ne 36, 3) := by decide +kernel
theorem dX3_untilMiss_19 : decode cX3_untilMiss 19 = .ok (.aload_n 0, 1) := by decide +kernel
theorem dX3_untilMiss_20 : decode cX3_untilMiss 20 = .ok (.invokevirtual 75, 3) := by decide +kernel
theorem dX3_untilMiss_23 : decode cX3_untilMiss 23 = .ok (.aload_n 0, 1) := by decide +kernel
theorem dX3_untilMiss_24 : decode cX3_untilMiss 24 = .ok (.getfield 22, 3) := by decide +kernel
theorem dX3_untilMiss_27 : decode cX3_untilMiss 27 = .ok (.bipush 13, 2) := by decide +kernel
theorem dX3_untilMiss_29 : decode cX3_untilMiss 29 = .ok (.iload_n 1, 1) := by decide +kernel
theorem dX3_untilMiss_30 : decode cX3_untilMiss 30 = .ok (.iadd, 1) := by decide +kernel
theorem dX3_untilMiss_31 : decode cX3_untilMiss 31 = .ok (.iaload, 1) := by decide +kernel
theorem dX3_untilMiss_32 : decode cX3_untilMiss 32 = .ok (.aload_n 0, 1) := by decide +kernel
theorem dX3_untilMiss_33 : decode cX3_untilMiss 33 = .ok (.getfield 25, 3) := by decide +kernel
theorem dX3_untilMiss_36 : decode cX3_untilMiss 36 = .ok (.bipush 13, 2) := by decide +kernel
theorem dX3_untilMiss_38 : decode cX3_untilMiss 38 = .ok (.iload_n 1, 1) := by decide +kernel
theorem dX3_untilMiss_39 : decode cX3_untilMiss 39 = .ok (.iadd, 1) := by decide +kernel
theorem dX3_untilMiss_40 : decode cX3_untilMiss 40 = .ok (.iaload, 1) := by decide +kernel
theorem dX3_untilMiss_41 : decode cX3_untilMiss 41 = .ok (.if_icmp .le 5, 3) := by decide +kernel
theorem dX3_untilMiss_44 : decode cX3_untilMiss 44 = .ok (.iload_n 3, 1) := by decide +kernel
theorem dX3_untilMiss_45 : decode cX3_untilMiss 45 = .ok (.istore_n 2, 1) := by decide +kernel
theorem dX3_untilMiss_46 : decode cX3_untilMiss 46 = .ok (.iinc 3 1, 3) := by decide +kernel
theorem dX3_untilMiss_49 : decode cX3_untilMiss 49 = .ok (.goto (-41), 3) := by decide +kernel
theorem dX3_untilMiss_52 : decode cX3_untilMiss 52 = .ok (.aload_n 0, 1) := by decide +kernel
theorem dX3_untilMiss_53 : decode cX3_untilMiss 53 = .ok (.invokevirtual 123, 3) := by decide +kernel
theorem dX3_untilMiss_56 : decode cX3_untilMiss 56 = .ok (.iload_n 2, 1) := by decide +kernel
theorem dX3_untilMiss_57 : decode cX3_untilMiss 57 = .ok (.ireturn, 1) := by decide +kernel
theorem dX3_turnsUntilMiss_0 : decode cX3_turnsUntilMiss 0 = .ok (.aload_n 0, 1) := by decide +kernel
theorem dX3_turnsUntilMiss_1 : decode cX3_turnsUntilMiss 1 = .ok (.iconst 0, 1) := by decide +kernel
theorem dX3_turnsUntilMiss_2 : decode cX3_turnsUntilMiss 2 = .ok (.putfield 28, 3) := by decide +kernel
theorem dX3_turnsUntilMiss_5 : decode cX3_turnsUntilMiss 5 = .ok (.aload_n 0, 1) := by decide +kernel
theorem dX3_turnsUntilMiss_6 : decode cX3_turnsUntilMiss 6 = .ok (.iload_n 1, 1) := by decide +kernel
theorem dX3_turnsUntilMiss_7 : decode cX3_turnsUntilMiss 7 = .ok (.invokevirtual 95, 3) := by decide +kernel
theorem dX3_turnsUntilMiss_10 : decode cX3_turnsUntilMiss 10 = .ok (.ifCond .eq 11, 3) := by decide +kernel
theorem dX3_turnsUntilMiss_13 : decode cX3_turnsUntilMiss 13 = .ok (.aload_n 0, 1) := by decide +kernel
theorem dX3_turnsUntilMiss_14 : decode cX3_turnsUntilMiss 14 = .ok (.iload_n 1, 1) := by decide +kernel
theorem dX3_turnsUntilMiss_15 : decode cX3_turnsUntilMiss 15 = .ok (.invokevirtual 126, 3) := by decide +kernel
theorem dX3_turnsUntilMiss_18 : decode cX3_turnsUntilMiss 18 = .ok (.goto 8, 3) := by decide +kernel
theorem dX3_turnsUntilMiss_21 : decode cX3_turnsUntilMiss 21 = .ok (.aload_n 0, 1) := by decide +kernel
theorem dX3_turnsUntilMiss_22 : decode cX3_turnsUntilMiss 22 = .ok (.iconst 1, 1) := by decide +kernel
theorem dX3_turnsUntilMiss_23 : decode cX3_turnsUntilMiss 23 = .ok (.invokevirtual 92, 3) := by decide +kernel
theorem dX3_turnsUntilMiss_26 : decode cX3_turnsUntilMiss 26 = .ok (.ireturn, 1) := by decide +kernel
theorem dX3_firstIn_0 : decode cX3_firstIn 0 = .ok (.aload_n 0, 1) := by decide +kernel
theorem dX3_firstIn_1 : decode cX3_firstIn 1 = .ok (.invokevirtual 120, 3) := by decide +kernel
theorem dX3_firstIn_4 : decode cX3_firstIn 4 = .ok (.aload_n 0, 1) := by decide +kernel
theorem dX3_firstIn_5 : decode cX3_firstIn 5 = .ok (.iload_n 1, 1) := by decide +kernel
theorem dX3_firstIn_6 : decode cX3_firstIn 6 = .ok (.invokevirtual 102, 3) := by decide +kernel
theorem dX3_firstIn_9 : decode cX3_firstIn 9 = .ok (.aload_n 0, 1) := by decide +kernel
theorem dX3_firstIn_10 : decode cX3_firstIn 10 = .ok (.invokevirtual 78, 3) := by decide +kernel
theorem dX3_firstIn_13 : decode cX3_firstIn 13 = .ok (.istore_n 2, 1) := by decide +kernel
theorem dX3_firstIn_14 : decode cX3_firstIn 14 = .ok (.aload_n 0, 1) := by decide +kernel
theorem dX3_firstIn_15 : decode cX3_firstIn 15 = .ok (.invokevirtual 123, 3) := by decide +kernel
theorem dX3_firstIn_18 : decode cX3_firstIn 18 = .ok (.iload_n 2, 1) := by decide +kernel
theorem dX3_firstIn_19 : decode cX3_firstIn 19 = .ok (.ireturn, 1) := by decide +kernel
theorem dX3_leaderIn_0 : decode cX3_leaderIn 0 = .ok (.aload_n 0, 1) := by decide +kernel
theorem dX3_leaderIn_1 : decode cX3_leaderIn 1 = .ok (.iconst 0, 1) := by decide +kernel
theorem dX3_leaderIn_2 : decode cX3_leaderIn 2 = .ok (.putfield 28, 3) := by decide +kernel
theorem dX3_leaderIn_5 : decode cX3_leaderIn 5 = .ok (.iload_n 1, 1) := by decide +kernel
theorem dX3_leaderIn_6 : decode cX3_leaderIn 6 = .ok (.iconst 1, 1) := by decide +kernel
theorem dX3_leaderIn_7 : decode cX3_leaderIn 7 = .ok (.bipush 50, 2) := by decide +kernel
theorem dX3_leaderIn_9 : decode cX3_leaderIn 9 = .ok (.invokestatic 35, 3) := by decide +kernel
theorem dX3_leaderIn_12 : decode cX3_leaderIn 12 = .ok (.ifCond .eq 11, 3) := by decide +kernel
theorem dX3_leaderIn_15 : decode cX3_leaderIn 15 = .ok (.aload_n 0, 1) := by decide +kernel
theorem dX3_leaderIn_16 : decode cX3_leaderIn 16 = .ok (.iload_n 1, 1) := by decide +kernel
theorem dX3_leaderIn_17 : decode cX3_leaderIn 17 = .ok (.invokevirtual 129, 3) := by decide +kernel
theorem dX3_leaderIn_20 : decode cX3_leaderIn 20 = .ok (.goto 8, 3) := by decide +kernel
theorem dX3_leaderIn_23 : decode cX3_leaderIn 23 = .ok (.aload_n 0, 1) := by decide +kernel
theorem dX3_leaderIn_24 : decode cX3_leaderIn 24 = .ok (.iconst 1, 1) := by decide +kernel
theorem dX3_leaderIn_25 : decode cX3_leaderIn 25 = .ok (.invokevirtual 92, 3) := by decide +kernel
theorem dX3_leaderIn_28 : decode cX3_leaderIn 28 = .ok (.ireturn, 1) := by decide +kernel
theorem dX3_winner_0 : decode cX3_winner 0 = .ok (.aload_n 0, 1) := by decide +kernel
theorem dX3_winner_1 : decode cX3_winner 1 = .ok (.getfield 32, 3) := by decide +kernel
theorem dX3_winner_4 : decode cX3_winner 4 = .ok (.ifCond .ne 5, 3) := by decide +kernel
theorem dX3_winner_7 : decode cX3_winner 7 = .ok (.iconst (-1), 1) := by decide +kernel
theorem dX3_winner_8 : decode cX3_winner 8 = .ok (.ireturn, 1) := by decide +kernel
theorem dX3_winner_9 : decode cX3_winner 9 = .ok (.aload_n 0, 1) := by decide +kernel
theorem dX3_winner_10 : decode cX3_winner 10 = .ok (.invokevirtual 120, 3) := by decide +kernel
theorem dX3_winner_13 : decode cX3_winner 13 = .ok (.aload_n 0, 1) := by decide +kernel
theorem dX3_winner_14 : decode cX3_winner 14 = .ok (.invokevirtual 105, 3) := by decide +kernel
theorem dX3_winner_17 : decode cX3_winner 17 = .ok (.istore_n 1, 1) := by decide +kernel
theorem dX3_winner_18 : decode cX3_winner 18 = .ok (.aload_n 0, 1) := by decide +kernel
theorem dX3_winner_19 : decode cX3_winner 19 = .ok (.invokevirtual 123, 3) := by decide +kernel
theorem dX3_winner_22 : decode cX3_winner 22 = .ok (.iload_n 1, 1) := by decide +kernel
theorem dX3_winner_23 : decode cX3_winner 23 = .ok (.ireturn, 1) := by decide +kernel
theorem dX3_wouldWin_0 : decode cX3_wouldWin 0 = .ok (.aload_n 0, 1) := by decide +kernel
theorem dX3_wouldWin_1 : decode cX3_wouldWin 1 = .ok (.aload_n 0, 1) := by decide +kernel
theorem dX3_wouldWin_2 : decode cX3_wouldWin 2 = .ok (.invokevirtual 132, 3) := by decide +kernel
theorem dX3_wouldWin_5 : decode cX3_wouldWin 5 = .ok (.invokevirtual 108, 3) := by decide +kernel
theorem dX3_wouldWin_8 : decode cX3_wouldWin 8 = .ok (.ireturn, 1) := by decide +kernel
theorem dX3_restFor_0 : decode cX3_restFor 0 = .ok (.aload_n 0, 1) := by decide +kernel
theorem dX3_restFor_1 : decode cX3_restFor 1 = .ok (.invokevirtual 120, 3) := by decide +kernel
theorem dX3_restFor_4 : decode cX3_restFor 4 = .ok (.iconst (-1), 1) := by decide +kernel
theorem dX3_restFor_5 : decode cX3_restFor 5 = .ok (.istore_n 2, 1) := by decide +kernel
theorem dX3_restFor_6 : decode cX3_restFor 6 = .ok (.iconst 0, 1) := by decide +kernel
theorem dX3_restFor_7 : decode cX3_restFor 7 = .ok (.istore_n 3, 1) := by decide +kernel
theorem dX3_restFor_8 : decode cX3_restFor 8 = .ok (.iconst 0, 1) := by decide +kernel
theorem dX3_restFor_9 : decode cX3_restFor 9 = .ok (.istore 4, 2) := by decide +kernel
theorem dX3_restFor_11 : decode cX3_restFor 11 = .ok (.iload 4, 2) := by decide +kernel
theorem dX3_restFor_13 : decode cX3_restFor 13 = .ok (.bipush 20, 2) := by decide +kernel
theorem dX3_restFor_15 : decode cX3_restFor 15 = .ok (.if_icmp .gt 68, 3) := by decide +kernel
theorem dX3_restFor_18 : decode cX3_restFor 18 = .ok (.aload_n 0, 1) := by decide +kernel
theorem dX3_restFor_19 : decode cX3_restFor 19 = .ok (.iload 4, 2) := by decide +kernel
theorem dX3_restFor_21 : decode cX3_restFor 21 = .ok (.invokevirtual 102, 3) := by decide +kernel
theorem dX3_restFor_24 : decode cX3_restFor 24 = .ok (.aload_n 0, 1) := by decide +kernel
theorem dX3_restFor_25 : decode cX3_restFor 25 = .ok (.getfield 22, 3) := by decide +kernel
theorem dX3_restFor_28 : decode cX3_restFor 28 = .ok (.bipush 19, 2) := by decide +kernel
theorem dX3_restFor_30 : decode cX3_restFor 30 = .ok (.iload_n 1, 1) := by decide +kernel
theorem dX3_restFor_31 : decode cX3_restFor 31 = .ok (.iadd, 1) := by decide +kernel
theorem dX3_restFor_32 : decode cX3_restFor 32 = .ok (.iconst 0, 1) := by decide +kernel
theorem dX3_restFor_33 : decode cX3_restFor 33 = .ok (.iastore, 1) := by decide +kernel
theorem dX3_restFor_34 : decode cX3_restFor 34 = .ok (.aload_n 0, 1) := by decide +kernel
theorem dX3_restFor_35 : decode cX3_restFor 35 = .ok (.bipush 25, 2) := by decide +kernel
theorem dX3_restFor_37 : decode cX3_restFor 37 = .ok (.iload 4, 2) := by decide +kernel
theorem dX3_restFor_39 : decode cX3_restFor 39 = .ok (.isub, 1) := by decide +kernel
theorem dX3_restFor_40 : decode cX3_restFor 40 = .ok (.invokevirtual 102, 3) := by decide +kernel
theorem dX3_restFor_43 : decode cX3_restFor 43 = .ok (.aload_n 0, 1) := by decide +kernel
theorem dX3_restFor_44 : decode cX3_restFor 44 = .ok (.getfield 22, 3) := by decide +kernel
theorem dX3_restFor_47 : decode cX3_restFor 47 = .ok (.iconst 1, 1) := by decide +kernel
theorem dX3_restFor_48 : decode cX3_restFor 48 = .ok (.iload_n 1, 1) := by decide +kernel
theorem dX3_restFor_49 : decode cX3_restFor 49 = .ok (.iadd, 1) := by decide +kernel
theorem dX3_restFor_50 : decode cX3_restFor 50 = .ok (.iaload, 1) := by decide +kernel
theorem dX3_restFor_51 : decode cX3_restFor 51 = .ok (.istore 5, 2) := by decide +kernel
theorem dX3_restFor_53 : decode cX3_restFor 53 = .ok (.aload_n 0, 1) := by decide +kernel
theorem dX3_restFor_54 : decode cX3_restFor 54 = .ok (.invokevirtual 123, 3) := by decide +kernel
theorem dX3_restFor_57 : decode cX3_restFor 57 = .ok (.iload_n 2, 1) := by decide +kernel
theorem dX3_restFor_58 : decode cX3_restFor 58 = .ok (.iconst (-1), 1) := by decide +kernel
theorem dX3_restFor_59 : decode cX3_restFor 59 = .ok (.if_icmp .eq 12, 3) := by decide +kernel
theorem dX3_restFor_62 : decode cX3_restFor 62 = .ok (.iload 5, 2) := by decide +kernel
theorem dX3_restFor_64 : decode cX3_restFor 64 = .ok (.iload_n 3, 1) := by decide +kernel
theorem dX3_restFor_65 : decode cX3_restFor 65 = .ok (.if_icmp .gt 6, 3) := by decide +kernel
theorem dX3_restFor_68 : decode cX3_restFor 68 = .ok (.goto 9, 3) := by decide +kernel
theorem dX3_restFor_71 : decode cX3_restFor 71 = .ok (.iload 4, 2) := by decide +kernel
theorem dX3_restFor_73 : decode cX3_restFor 73 = .ok (.istore_n 2, 1) := by decide +kernel
theorem dX3_restFor_74 : decode cX3_restFor 74 = .ok (.iload 5, 2) := by decide +kernel
theorem dX3_restFor_76 : decode cX3_restFor 76 = .ok (.istore_n 3, 1) := by decide +kernel
theorem dX3_restFor_77 : decode cX3_restFor 77 = .ok (.iinc 4 1, 3) := by decide +kernel
theorem dX3_restFor_80 : decode cX3_restFor 80 = .ok (.goto (-69), 3) := by decide +kernel
theorem dX3_restFor_83 : decode cX3_restFor 83 = .ok (.iload_n 2, 1) := by decide +kernel
theorem dX3_restFor_84 : decode cX3_restFor 84 = .ok (.ireturn, 1) := by decide +kernel
theorem dX3_bestRest_0 : decode cX3_bestRest 0 = .ok (.aload_n 0, 1) := by decide +kernel
theorem dX3_bestRest_1 : decode cX3_bestRest 1 = .ok (.iconst 0, 1) := by decide +kernel
theorem dX3_bestRest_2 : decode cX3_bestRest 2 = .ok (.putfield 28, 3) := by decide +kernel
theorem dX3_bestRest_5 : decode cX3_bestRest 5 = .ok (.aload_n 0, 1) := by decide +kernel
theorem dX3_bestRest_6 : decode cX3_bestRest 6 = .ok (.iload_n 1, 1) := by decide +kernel
theorem dX3_bestRest_7 : decode cX3_bestRest 7 = .ok (.invokevirtual 95, 3) := by decide +kernel
theorem dX3_bestRest_10 : decode cX3_bestRest 10 = .ok (.ifCond .eq 11, 3) := by decide +kernel
theorem dX3_bestRest_13 : decode cX3_bestRest 13 = .ok (.aload_n 0, 1) := by decide +kernel
theorem dX3_bestRest_14 : decode cX3_bestRest 14 = .ok (.iload_n 1, 1) := by decide +kernel
theorem dX3_bestRest_15 : decode cX3_bestRest 15 = .ok (.invokevirtual 135, 3) := by decide +kernel
theorem dX3_bestRest_18 : decode cX3_bestRest 18 = .ok (.goto 8, 3) := by decide +kernel
theorem dX3_bestRest_21 : decode cX3_bestRest 21 = .ok (.aload_n 0, 1) := by decide +kernel
theorem dX3_bestRest_22 : decode cX3_bestRest 22 = .ok (.iconst 1, 1) := by decide +kernel
theorem dX3_bestRest_23 : decode cX3_bestRest 23 = .ok (.invokevirtual 92, 3) := by decide +kernel
theorem dX3_bestRest_26 : decode cX3_bestRest 26 = .ok (.ireturn, 1) := by decide +kernel
theorem dX3_swingWanted_0 : decode cX3_swingWanted 0 = .ok (.aload_n 0, 1) := by decide +kernel
theorem dX3_swingWanted_1 : decode cX3_swingWanted 1 = .ok (.iconst 0, 1) := by decide +kernel
theorem dX3_swingWanted_2 : decode cX3_swingWanted 2 = .ok (.putfield 28, 3) := by decide +kernel
theorem dX3_swingWanted_5 : decode cX3_swingWanted 5 = .ok (.aload_n 0, 1) := by decide +kernel
theorem dX3_swingWanted_6 : decode cX3_swingWanted 6 = .ok (.iload_n 1, 1) := by decide +kernel
theorem dX3_swingWanted_7 : decode cX3_swingWanted 7 = .ok (.invokevirtual 95, 3) := by decide +kernel
theorem dX3_swingWanted_10 : decode cX3_swingWanted 10 = .ok (.ifCond .ne 9, 3) := by decide +kernel
theorem dX3_swingWanted_13 : decode cX3_swingWanted 13 = .ok (.aload_n 0, 1) := by decide +kernel
theorem dX3_swingWanted_14 : decode cX3_swingWanted 14 = .ok (.iconst 1, 1) := by decide +kernel
theorem dX3_swingWanted_15 : decode cX3_swingWanted 15 = .ok (.invokevirtual 92, 3) := by decide +kernel
theorem dX3_swingWanted_18 : decode cX3_swingWanted 18 = .ok (.ireturn, 1) := by decide +kernel
theorem dX3_swingWanted_19 : decode cX3_swingWanted 19 = .ok (.iconst 5, 1) := by decide +kernel
theorem dX3_swingWanted_20 : decode cX3_swingWanted 20 = .ok (.istore_n 2, 1) := by decide +kernel
theorem dX3_swingWanted_21 : decode cX3_swingWanted 21 = .ok (.iconst 0, 1) := by decide +kernel
theorem dX3_swingWanted_22 : decode cX3_swingWanted 22 = .ok (.istore_n 3, 1) := by decide +kernel
theorem dX3_swingWanted_23 : decode cX3_swingWanted 23 = .ok (.iload_n 3, 1) := by decide +kernel
theorem dX3_swingWanted_24 : decode cX3_swingWanted 24 = .ok (.iconst 5, 1) := by decide +kernel
theorem dX3_swingWanted_25 : decode cX3_swingWanted 25 = .ok (.if_icmp .ge 27, 3) := by decide +kernel
theorem dX3_swingWanted_28 : decode cX3_swingWanted 28 = .ok (.iload_n 2, 1) := by decide +kernel
theorem dX3_swingWanted_29 : decode cX3_swingWanted 29 = .ok (.aload_n 0, 1) := by decide +kernel
theorem dX3_swingWanted_30 : decode cX3_swingWanted 30 = .ok (.iload_n 3, 1) := by decide +kernel
theorem dX3_swingWanted_31 : decode cX3_swingWanted 31 = .ok (.aload_n 0, 1) := by decide +kernel
theorem dX3_swingWanted_32 : decode cX3_swingWanted 32 = .ok (.iload_n 3, 1) := by decide +kernel
theorem dX3_swingWanted_33 : decode cX3_swingWanted 33 = .ok (.invokevirtual 111, 3) := by decide +kernel
theorem dX3_swingWanted_36 : decode cX3_swingWanted 36 = .ok (.invokevirtual 53, 3) := by decide +kernel
theorem dX3_swingWanted_39 : decode cX3_swingWanted 39 = .ok (.invokestatic 57, 3) := by decide +kernel
theorem dX3_swingWanted_42 : decode cX3_swingWanted 42 = .ok (.invokestatic 72, 3) := by decide +kernel
theorem dX3_swingWanted_45 : decode cX3_swingWanted 45 = .ok (.istore_n 2, 1) := by decide +kernel
theorem dX3_swingWanted_46 : decode cX3_swingWanted 46 = .ok (.iinc 3 1, 3) := by decide +kernel
theorem dX3_swingWanted_49 : decode cX3_swingWanted 49 = .ok (.goto (-26), 3) := by decide +kernel
theorem dX3_swingWanted_52 : decode cX3_swingWanted 52 = .ok (.iload_n 2, 1) := by decide +kernel
theorem dX3_swingWanted_53 : decode cX3_swingWanted 53 = .ok (.bipush 60, 2) := by decide +kernel
theorem dX3_swingWanted_55 : decode cX3_swingWanted 55 = .ok (.if_icmp .le 7, 3) := by decide +kernel
theorem dX3_swingWanted_58 : decode cX3_swingWanted 58 = .ok (.iconst (-1), 1) := by decide +kernel
theorem dX3_swingWanted_59 : decode cX3_swingWanted 59 = .ok (.goto 4, 3) := by decide +kernel
theorem dX3_swingWanted_62 : decode cX3_swingWanted 62 = .ok (.iload_n 2, 1) := by decide +kernel
theorem dX3_swingWanted_63 : decode cX3_swingWanted 63 = .ok (.ireturn, 1) := by decide +kernel
theorem dX3_meanScore_0 : decode cX3_meanScore 0 = .ok (.aload_n 0, 1) := by decide +kernel
theorem dX3_meanScore_1 : decode cX3_meanScore 1 = .ok (.iconst 0, 1) := by decide +kernel
theorem dX3_meanScore_2 : decode cX3_meanScore 2 = .ok (.putfield 28, 3) := by decide +kernel
theorem dX3_meanScore_5 : decode cX3_meanScore 5 = .ok (.iconst 0, 1) := by decide +kernel
theorem dX3_meanScore_6 : decode cX3_meanScore 6 = .ok (.istore_n 1, 1) := by decide +kernel
theorem dX3_meanScore_7 : decode cX3_meanScore 7 = .ok (.iconst 0, 1) := by decide +kernel
theorem dX3_meanScore_8 : decode cX3_meanScore 8 = .ok (.istore_n 2, 1) := by decide +kernel
theorem dX3_meanScore_9 : decode cX3_meanScore 9 = .ok (.iload_n 2, 1) := by decide +kernel
theorem dX3_meanScore_10 : decode cX3_meanScore 10 = .ok (.aload_n 0, 1) := by decide +kernel
theorem dX3_meanScore_11 : decode cX3_meanScore 11 = .ok (.getfield 32, 3) := by decide +kernel
theorem dX3_meanScore_14 : decode cX3_meanScore 14 = .ok (.if_icmp .ge 20, 3) := by decide +kernel
theorem dX3_meanScore_17 : decode cX3_meanScore 17 = .ok (.iload_n 1, 1) := by decide +kernel
theorem dX3_meanScore_18 : decode cX3_meanScore 18 = .ok (.aload_n 0, 1) := by decide +kernel
theorem dX3_meanScore_19 : decode cX3_meanScore 19 = .ok (.getfield 22, 3) := by decide +kernel
theorem dX3_meanScore_22 : decode cX3_meanScore 22 = .ok (.iconst 1, 1) := by decide +kernel
theorem dX3_meanScore_23 : decode cX3_meanScore 23 = .ok (.iload_n 2, 1) := by decide +kernel
theorem dX3_meanScore_24 : decode cX3_meanScore 24 = .ok (.iadd, 1) := by decide +kernel
theorem dX3_meanScore_25 : decode cX3_meanScore 25 = .ok (.iaload, 1) := by decide +kernel
theorem dX3_meanScore_26 : decode cX3_meanScore 26 = .ok (.iadd, 1) := by decide +kernel
theorem dX3_meanScore_27 : decode cX3_meanScore 27 = .ok (.istore_n 1, 1) := by decide +kernel
theorem dX3_meanScore_28 : decode cX3_meanScore 28 = .ok (.iinc 2 1, 3) := by decide +kernel
theorem dX3_meanScore_31 : decode cX3_meanScore 31 = .ok (.goto (-22), 3) := by decide +kernel
theorem dX3_meanScore_34 : decode cX3_meanScore 34 = .ok (.aload_n 0, 1) := by decide +kernel
theorem dX3_meanScore_35 : decode cX3_meanScore 35 = .ok (.getfield 32, 3) := by decide +kernel
theorem dX3_meanScore_38 : decode cX3_meanScore 38 = .ok (.ifCond .ne 7, 3) := by decide +kernel
theorem dX3_meanScore_41 : decode cX3_meanScore 41 = .ok (.dconst 0, 1) := by decide +kernel
theorem dX3_meanScore_42 : decode cX3_meanScore 42 = .ok (.goto 11, 3) := by decide +kernel
theorem dX3_meanScore_45 : decode cX3_meanScore 45 = .ok (.iload_n 1, 1) := by decide +kernel
theorem dX3_meanScore_46 : decode cX3_meanScore 46 = .ok (.i2d, 1) := by decide +kernel
theorem dX3_meanScore_47 : decode cX3_meanScore 47 = .ok (.aload_n 0, 1) := by decide +kernel
theorem dX3_meanScore_48 : decode cX3_meanScore 48 = .ok (.getfield 32, 3) := by decide +kernel
theorem dX3_meanScore_51 : decode cX3_meanScore 51 = .ok (.i2d, 1) := by decide +kernel
theorem dX3_meanScore_52 : decode cX3_meanScore 52 = .ok (.ddiv, 1) := by decide +kernel
theorem dX3_meanScore_53 : decode cX3_meanScore 53 = .ok (.dreturn, 1) := by decide +kernel
theorem dX3_digest_0 : decode cX3_digest 0 = .ok (.aload_n 0, 1) := by decide +kernel
theorem dX3_digest_1 : decode cX3_digest 1 = .ok (.iconst 0, 1) := by decide +kernel
theorem dX3_digest_2 : decode cX3_digest 2 = .ok (.putfield 28, 3) := by decide +kernel
theorem dX3_digest_5 : decode cX3_digest 5 = .ok (.bipush 6, 2) := by decide +kernel
theorem dX3_digest_7 : decode cX3_digest 7 = .ok (.newarray .int, 2) := by decide +kernel
theorem dX3_digest_9 : decode cX3_digest 9 = .ok (.dup, 1) := by decide +kernel
theorem dX3_digest_10 : decode cX3_digest 10 = .ok (.iconst 0, 1) := by decide +kernel
theorem dX3_digest_11 : decode cX3_digest 11 = .ok (.aload_n 0, 1) := by decide +kernel
theorem dX3_digest_12 : decode cX3_digest 12 = .ok (.getfield 22, 3) := by decide +kernel
theorem dX3_digest_15 : decode cX3_digest 15 = .ok (.iconst 0, 1) := by decide +kernel
theorem dX3_digest_16 : decode cX3_digest 16 = .ok (.iaload, 1) := by decide +kernel
theorem dX3_digest_17 : decode cX3_digest 17 = .ok (.iastore, 1) := by decide +kernel
theorem dX3_digest_18 : decode cX3_digest 18 = .ok (.dup, 1) := by decide +kernel
theorem dX3_digest_19 : decode cX3_digest 19 = .ok (.iconst 1, 1) := by decide +kernel
theorem dX3_digest_20 : decode cX3_digest 20 = .ok (.aload_n 0, 1) := by decide +kernel
theorem dX3_digest_21 : decode cX3_digest 21 = .ok (.getfield 32, 3) := by decide +kernel
theorem dX3_digest_24 : decode cX3_digest 24 = .ok (.iastore, 1) := by decide +kernel
theorem dX3_digest_25 : decode cX3_digest 25 = .ok (.dup, 1) := by decide +kernel
theorem dX3_digest_26 : decode cX3_digest 26 = .ok (.iconst 2, 1) := by decide +kernel
theorem dX3_digest_27 : decode cX3_digest 27 = .ok (.aload_n 0, 1) := by decide +kernel
theorem dX3_digest_28 : decode cX3_digest 28 = .ok (.invokevirtual 78, 3) := by decide +kernel
theorem dX3_digest_31 : decode cX3_digest 31 = .ok (.iastore, 1) := by decide +kernel
theorem dX3_digest_32 : decode cX3_digest 32 = .ok (.dup, 1) := by decide +kernel
theorem dX3_digest_33 : decode cX3_digest 33 = .ok (.iconst 3, 1) := by decide +kernel
theorem dX3_digest_34 : decode cX3_digest 34 = .ok (.aload_n 0, 1) := by decide +kernel
theorem dX3_digest_35 : decode cX3_digest 35 = .ok (.invokevirtual 81, 3) := by decide +kernel
theorem dX3_digest_38 : decode cX3_digest 38 = .ok (.invokestatic 84, 3) := by decide +kernel
theorem dX3_digest_41 : decode cX3_digest 41 = .ok (.iastore, 1) := by decide +kernel
theorem dX3_digest_42 : decode cX3_digest 42 = .ok (.dup, 1) := by decide +kernel
theorem dX3_digest_43 : decode cX3_digest 43 = .ok (.iconst 4, 1) := by decide +kernel
theorem dX3_digest_44 : decode cX3_digest 44 = .ok (.aload_n 0, 1) := by decide +kernel
theorem dX3_digest_45 : decode cX3_digest 45 = .ok (.invokevirtual 132, 3) := by decide +kernel
theorem dX3_digest_48 : decode cX3_digest 48 = .ok (.iastore, 1) := by decide +kernel
theorem dX3_digest_49 : decode cX3_digest 49 = .ok (.dup, 1) := by decide +kernel
theorem dX3_digest_50 : decode cX3_digest 50 = .ok (.iconst 5, 1) := by decide +kernel
theorem dX3_digest_51 : decode cX3_digest 51 = .ok (.aload_n 0, 1) := by decide +kernel
theorem dX3_digest_52 : decode cX3_digest 52 = .ok (.bipush 25, 2) := by decide +kernel
theorem dX3_digest_54 : decode cX3_digest 54 = .ok (.invokevirtual 129, 3) := by decide +kernel
theorem dX3_digest_57 : decode cX3_digest 57 = .ok (.iastore, 1) := by decide +kernel
theorem dX3_digest_58 : decode cX3_digest 58 = .ok (.astore_n 1, 1) := by decide +kernel
theorem dX3_digest_59 : decode cX3_digest 59 = .ok (.ldc2_w 138, 3) := by decide +kernel
theorem dX3_digest_62 : decode cX3_digest 62 = .ok (.lstore_n 2, 1) := by decide +kernel
theorem dX3_digest_63 : decode cX3_digest 63 = .ok (.aload_n 1, 1) := by decide +kernel
theorem dX3_digest_64 : decode cX3_digest 64 = .ok (.astore 4, 2) := by decide +kernel
theorem dX3_digest_66 : decode cX3_digest 66 = .ok (.aload 4, 2) := by decide +kernel
theorem dX3_digest_68 : decode cX3_digest 68 = .ok (.arraylength, 1) := by decide +kernel
theorem dX3_digest_69 : decode cX3_digest 69 = .ok (.istore 5, 2) := by decide +kernel
theorem dX3_digest_71 : decode cX3_digest 71 = .ok (.iconst 0, 1) := by decide +kernel
theorem dX3_digest_72 : decode cX3_digest 72 = .ok (.istore 6, 2) := by decide +kernel
theorem dX3_digest_74 : decode cX3_digest 74 = .ok (.iload 6, 2) := by decide +kernel
theorem dX3_digest_76 : decode cX3_digest 76 = .ok (.iload 5, 2) := by decide +kernel
theorem dX3_digest_78 : decode cX3_digest 78 = .ok (.if_icmp .ge 26, 3) := by decide +kernel
theorem dX3_digest_81 : decode cX3_digest 81 = .ok (.aload 4, 2) := by decide +kernel
theorem dX3_digest_83 : decode cX3_digest 83 = .ok (.iload 6, 2) := by decide +kernel
theorem dX3_digest_85 : decode cX3_digest 85 = .ok (.iaload, 1) := by decide +kernel
theorem dX3_digest_86 : decode cX3_digest 86 = .ok (.istore 7, 2) := by decide +kernel
theorem dX3_digest_88 : decode cX3_digest 88 = .ok (.lload_n 2, 1) := by decide +kernel
theorem dX3_digest_89 : decode cX3_digest 89 = .ok (.ldc2_w 140, 3) := by decide +kernel
theorem dX3_digest_92 : decode cX3_digest 92 = .ok (.lmul, 1) := by decide +kernel
theorem dX3_digest_93 : decode cX3_digest 93 = .ok (.iload 7, 2) := by decide +kernel
theorem dX3_digest_95 : decode cX3_digest 95 = .ok (.i2l, 1) := by decide +kernel
theorem dX3_digest_96 : decode cX3_digest 96 = .ok (.ladd, 1) := by decide +kernel
theorem dX3_digest_97 : decode cX3_digest 97 = .ok (.lstore_n 2, 1) := by decide +kernel
theorem dX3_digest_98 : decode cX3_digest 98 = .ok (.iinc 6 1, 3) := by decide +kernel
theorem dX3_digest_101 : decode cX3_digest 101 = .ok (.goto (-27), 3) := by decide +kernel
theorem dX3_digest_104 : decode cX3_digest 104 = .ok (.iconst 0, 1) := by decide +kernel
theorem dX3_digest_105 : decode cX3_digest 105 = .ok (.istore 4, 2) := by decide +kernel
theorem dX3_digest_107 : decode cX3_digest 107 = .ok (.iload 4, 2) := by decide +kernel
theorem dX3_digest_109 : decode cX3_digest 109 = .ok (.iconst 5, 1) := by decide +kernel
theorem dX3_digest_110 : decode cX3_digest 110 = .ok (.if_icmp .ge 54, 3) := by decide +kernel
theorem dX3_digest_113 : decode cX3_digest 113 = .ok (.iconst 0, 1) := by decide +kernel
theorem dX3_digest_114 : decode cX3_digest 114 = .ok (.istore 5, 2) := by decide +kernel
theorem dX3_digest_116 : decode cX3_digest 116 = .ok (.iload 5, 2) := by decide +kernel
theorem dX3_digest_118 : decode cX3_digest 118 = .ok (.iconst 5, 1) := by decide +kernel
theorem dX3_digest_119 : decode cX3_digest 119 = .ok (.if_icmp .ge 25, 3) := by decide +kernel
theorem dX3_digest_122 : decode cX3_digest 122 = .ok (.lload_n 2, 1) := by decide +kernel
theorem dX3_digest_123 : decode cX3_digest 123 = .ok (.ldc2_w 140, 3) := by decide +kernel
theorem dX3_digest_126 : decode cX3_digest 126 = .ok (.lmul, 1) := by decide +kernel
theorem dX3_digest_127 : decode cX3_digest 127 = .ok (.aload_n 0, 1) := by decide +kernel
theorem dX3_digest_128 : decode cX3_digest 128 = .ok (.iload 4, 2) := by decide +kernel
theorem dX3_digest_130 : decode cX3_digest 130 = .ok (.iload 5, 2) := by decide +kernel
theorem dX3_digest_132 : decode cX3_digest 132 = .ok (.invokevirtual 53, 3) := by decide +kernel
theorem dX3_digest_135 : decode cX3_digest 135 = .ok (.i2l, 1) := by decide +kernel
theorem dX3_digest_136 : decode cX3_digest 136 = .ok (.ladd, 1) := by decide +kernel
theorem dX3_digest_137 : decode cX3_digest 137 = .ok (.lstore_n 2, 1) := by decide +kernel
theorem dX3_digest_138 : decode cX3_digest 138 = .ok (.iinc 5 1, 3) := by decide +kernel
theorem dX3_digest_141 : decode cX3_digest 141 = .ok (.goto (-25), 3) := by decide +kernel
theorem dX3_digest_144 : decode cX3_digest 144 = .ok (.lload_n 2, 1) := by decide +kernel
theorem dX3_digest_145 : decode cX3_digest 145 = .ok (.ldc2_w 140, 3) := by decide +kernel
theorem dX3_digest_148 : decode cX3_digest 148 = .ok (.lmul, 1) := by decide +kernel
theorem dX3_digest_149 : decode cX3_digest 149 = .ok (.aload_n 0, 1) := by decide +kernel
theorem dX3_digest_150 : decode cX3_digest 150 = .ok (.iload 4, 2) := by decide +kernel
theorem dX3_digest_152 : decode cX3_digest 152 = .ok (.invokevirtual 111, 3) := by decide +kernel
theorem dX3_digest_155 : decode cX3_digest 155 = .ok (.i2l, 1) := by decide +kernel
theorem dX3_digest_156 : decode cX3_digest 156 = .ok (.ladd, 1) := by decide +kernel
theorem dX3_digest_157 : decode cX3_digest 157 = .ok (.lstore_n 2, 1) := by decide +kernel
theorem dX3_digest_158 : decode cX3_digest 158 = .ok (.iinc 4 1, 3) := by decide +kernel
theorem dX3_digest_161 : decode cX3_digest 161 = .ok (.goto (-54), 3) := by decide +kernel
theorem dX3_digest_164 : decode cX3_digest 164 = .ok (.iconst 0, 1) := by decide +kernel
theorem dX3_digest_165 : decode cX3_digest 165 = .ok (.istore 4, 2) := by decide +kernel
theorem dX3_digest_167 : decode cX3_digest 167 = .ok (.iload 4, 2) := by decide +kernel
theorem dX3_digest_169 : decode cX3_digest 169 = .ok (.aload_n 0, 1) := by decide +kernel
theorem dX3_digest_170 : decode cX3_digest 170 = .ok (.getfield 32, 3) := by decide +kernel
theorem dX3_digest_173 : decode cX3_digest 173 = .ok (.if_icmp .ge 174, 3) := by decide +kernel
theorem dX3_digest_176 : decode cX3_digest 176 = .ok (.bipush 10, 2) := by decide +kernel
theorem dX3_digest_178 : decode cX3_digest 178 = .ok (.newarray .int, 2) := by decide +kernel
theorem dX3_digest_180 : decode cX3_digest 180 = .ok (.dup, 1) := by decide +kernel
theorem dX3_digest_181 : decode cX3_digest 181 = .ok (.iconst 0, 1) := by decide +kernel
theorem dX3_digest_182 : decode cX3_digest 182 = .ok (.aload_n 0, 1) := by decide +kernel
theorem dX3_digest_183 : decode cX3_digest 183 = .ok (.iload 4, 2) := by decide +kernel
theorem dX3_digest_185 : decode cX3_digest 185 = .ok (.invokevirtual 45, 3) := by decide +kernel
theorem dX3_digest_188 : decode cX3_digest 188 = .ok (.iastore, 1) := by decide +kernel
theorem dX3_digest_189 : decode cX3_digest 189 = .ok (.dup, 1) := by decide +kernel
theorem dX3_digest_190 : decode cX3_digest 190 = .ok (.iconst 1, 1) := by decide +kernel
theorem dX3_digest_191 : decode cX3_digest 191 = .ok (.aload_n 0, 1) := by decide +kernel
theorem dX3_digest_192 : decode cX3_digest 192 = .ok (.aload_n 0, 1) := by decide +kernel
theorem dX3_digest_193 : decode cX3_digest 193 = .ok (.iload 4, 2) := by decide +kernel
theorem dX3_digest_195 : decode cX3_digest 195 = .ok (.invokevirtual 45, 3) := by decide +kernel
theorem dX3_digest_198 : decode cX3_digest 198 = .ok (.aload_n 0, 1) := by decide +kernel
theorem dX3_digest_199 : decode cX3_digest 199 = .ok (.invokevirtual 49, 3) := by decide +kernel
theorem dX3_digest_202 : decode cX3_digest 202 = .ok (.invokevirtual 53, 3) := by decide +kernel
theorem dX3_digest_205 : decode cX3_digest 205 = .ok (.iastore, 1) := by decide +kernel
theorem dX3_digest_206 : decode cX3_digest 206 = .ok (.dup, 1) := by decide +kernel
theorem dX3_digest_207 : decode cX3_digest 207 = .ok (.iconst 2, 1) := by decide +kernel
theorem dX3_digest_208 : decode cX3_digest 208 = .ok (.aload_n 0, 1) := by decide +kernel
theorem dX3_digest_209 : decode cX3_digest 209 = .ok (.getfield 22, 3) := by decide +kernel
theorem dX3_digest_212 : decode cX3_digest 212 = .ok (.iconst 1, 1) := by decide +kernel
theorem dX3_digest_213 : decode cX3_digest 213 = .ok (.iload 4, 2) := by decide +kernel
theorem dX3_digest_215 : decode cX3_digest 215 = .ok (.iadd, 1) := by decide +kernel
theorem dX3_digest_216 : decode cX3_digest 216 = .ok (.iaload, 1) := by decide +kernel
theorem dX3_digest_217 : decode cX3_digest 217 = .ok (.iastore, 1) := by decide +kernel
theorem dX3_digest_218 : decode cX3_digest 218 = .ok (.dup, 1) := by decide +kernel
theorem dX3_digest_219 : decode cX3_digest 219 = .ok (.iconst 3, 1) := by decide +kernel
theorem dX3_digest_220 : decode cX3_digest 220 = .ok (.aload_n 0, 1) := by decide +kernel
theorem dX3_digest_221 : decode cX3_digest 221 = .ok (.getfield 22, 3) := by decide +kernel
theorem dX3_digest_224 : decode cX3_digest 224 = .ok (.bipush 7, 2) := by decide +kernel
theorem dX3_digest_226 : decode cX3_digest 226 = .ok (.iload 4, 2) := by decide +kernel
theorem dX3_digest_228 : decode cX3_digest 228 = .ok (.iadd, 1) := by decide +kernel
theorem dX3_digest_229 : decode cX3_digest 229 = .ok (.iaload, 1) := by decide +kernel
theorem dX3_digest_230 : decode cX3_digest 230 = .ok (.iastore, 1) := by decide +kernel
theorem dX3_digest_231 : decode cX3_digest 231 = .ok (.dup, 1) := by decide +kernel
theorem dX3_digest_232 : decode cX3_digest 232 = .ok (.iconst 4, 1) := by decide +kernel
theorem dX3_digest_233 : decode cX3_digest 233 = .ok (.aload_n 0, 1) := by decide +kernel
theorem dX3_digest_234 : decode cX3_digest 234 = .ok (.getfield 22, 3) := by decide +kernel
theorem dX3_digest_237 : decode cX3_digest 237 = .ok (.bipush 13, 2) := by decide +kernel
theorem dX3_digest_239 : decode cX3_digest 239 = .ok (.iload 4, 2) := by decide +kernel
theorem dX3_digest_241 : decode cX3_digest 241 = .ok (.iadd, 1) := by decide +kernel
theorem dX3_digest_242 : decode cX3_digest 242 = .ok (.iaload, 1) := by decide +kernel
theorem dX3_digest_243 : decode cX3_digest 243 = .ok (.iastore, 1) := by decide +kernel
theorem dX3_digest_244 : decode cX3_digest 244 = .ok (.dup, 1) := by decide +kernel
theorem dX3_digest_245 : decode cX3_digest 245 = .ok (.iconst 5, 1) := by decide +kernel
theorem dX3_digest_246 : decode cX3_digest 246 = .ok (.aload_n 0, 1) := by decide +kernel
theorem dX3_digest_247 : decode cX3_digest 247 = .ok (.getfield 22, 3) := by decide +kernel
theorem dX3_digest_250 : decode cX3_digest 250 = .ok (.bipush 19, 2) := by decide +kernel
theorem dX3_digest_252 : decode cX3_digest 252 = .ok (.iload 4, 2) := by decide +kernel
theorem dX3_digest_254 : decode cX3_digest 254 = .ok (.iadd, 1) := by decide +kernel
theorem dX3_digest_255 : decode cX3_digest 255 = .ok (.iaload, 1) := by decide +kernel
theorem dX3_digest_256 : decode cX3_digest 256 = .ok (.iastore, 1) := by decide +kernel
theorem dX3_digest_257 : decode cX3_digest 257 = .ok (.dup, 1) := by decide +kernel
theorem dX3_digest_258 : decode cX3_digest 258 = .ok (.bipush 6, 2) := by decide +kernel
theorem dX3_digest_260 : decode cX3_digest 260 = .ok (.aload_n 0, 1) := by decide +kernel
theorem dX3_digest_261 : decode cX3_digest 261 = .ok (.iload 4, 2) := by decide +kernel
theorem dX3_digest_263 : decode cX3_digest 263 = .ok (.invokevirtual 65, 3) := by decide +kernel
theorem dX3_digest_266 : decode cX3_digest 266 = .ok (.iastore, 1) := by decide +kernel
theorem dX3_digest_267 : decode cX3_digest 267 = .ok (.dup, 1) := by decide +kernel
theorem dX3_digest_268 : decode cX3_digest 268 = .ok (.bipush 7, 2) := by decide +kernel
theorem dX3_digest_270 : decode cX3_digest 270 = .ok (.aload_n 0, 1) := by decide +kernel
theorem dX3_digest_271 : decode cX3_digest 271 = .ok (.iload 4, 2) := by decide +kernel
theorem dX3_digest_273 : decode cX3_digest 273 = .ok (.invokevirtual 117, 3) := by decide +kernel
theorem dX3_digest_276 : decode cX3_digest 276 = .ok (.iastore, 1) := by decide +kernel
theorem dX3_digest_277 : decode cX3_digest 277 = .ok (.dup, 1) := by decide +kernel
theorem dX3_digest_278 : decode cX3_digest 278 = .ok (.bipush 8, 2) := by decide +kernel
theorem dX3_digest_280 : decode cX3_digest 280 = .ok (.aload_n 0, 1) := by decide +kernel
theorem dX3_digest_281 : decode cX3_digest 281 = .ok (.iload 4, 2) := by decide +kernel
theorem dX3_digest_283 : decode cX3_digest 283 = .ok (.invokevirtual 126, 3) := by decide +kernel
theorem dX3_digest_286 : decode cX3_digest 286 = .ok (.iastore, 1) := by decide +kernel
theorem dX3_digest_287 : decode cX3_digest 287 = .ok (.dup, 1) := by decide +kernel
theorem dX3_digest_288 : decode cX3_digest 288 = .ok (.bipush 9, 2) := by decide +kernel
theorem dX3_digest_290 : decode cX3_digest 290 = .ok (.aload_n 0, 1) := by decide +kernel
theorem dX3_digest_291 : decode cX3_digest 291 = .ok (.iload 4, 2) := by decide +kernel
theorem dX3_digest_293 : decode cX3_digest 293 = .ok (.invokevirtual 135, 3) := by decide +kernel
theorem dX3_digest_296 : decode cX3_digest 296 = .ok (.iastore, 1) := by decide +kernel
theorem dX3_digest_297 : decode cX3_digest 297 = .ok (.astore 5, 2) := by decide +kernel
theorem dX3_digest_299 : decode cX3_digest 299 = .ok (.aload 5, 2) := by decide +kernel
theorem dX3_digest_301 : decode cX3_digest 301 = .ok (.astore 6, 2) := by decide +kernel
theorem dX3_digest_303 : decode cX3_digest 303 = .ok (.aload 6, 2) := by decide +kernel
theorem dX3_digest_305 : decode cX3_digest 305 = .ok (.arraylength, 1) := by decide +kernel
theorem dX3_digest_306 : decode cX3_digest 306 = .ok (.istore 7, 2) := by decide +kernel
theorem dX3_digest_308 : decode cX3_digest 308 = .ok (.iconst 0, 1) := by decide +kernel
theorem dX3_digest_309 : decode cX3_digest 309 = .ok (.istore 8, 2) := by decide +kernel
theorem dX3_digest_311 : decode cX3_digest 311 = .ok (.iload 8, 2) := by decide +kernel
theorem dX3_digest_313 : decode cX3_digest 313 = .ok (.iload 7, 2) := by decide +kernel
theorem dX3_digest_315 : decode cX3_digest 315 = .ok (.if_icmp .ge 26, 3) := by decide +kernel
theorem dX3_digest_318 : decode cX3_digest 318 = .ok (.aload 6, 2) := by decide +kernel
theorem dX3_digest_320 : decode cX3_digest 320 = .ok (.iload 8, 2) := by decide +kernel
theorem dX3_digest_322 : decode cX3_digest 322 = .ok (.iaload, 1) := by decide +kernel
theorem dX3_digest_323 : decode cX3_digest 323 = .ok (.istore 9, 2) := by decide +kernel
theorem dX3_digest_325 : decode cX3_digest 325 = .ok (.lload_n 2, 1) := by decide +kernel
theorem dX3_digest_326 : decode cX3_digest 326 = .ok (.ldc2_w 140, 3) := by decide +kernel
theorem dX3_digest_329 : decode cX3_digest 329 = .ok (.lmul, 1) := by decide +kernel
theorem dX3_digest_330 : decode cX3_digest 330 = .ok (.iload 9, 2) := by decide +kernel
theorem dX3_digest_332 : decode cX3_digest 332 = .ok (.i2l, 1) := by decide +kernel
theorem dX3_digest_333 : decode cX3_digest 333 = .ok (.ladd, 1) := by decide +kernel
theorem dX3_digest_334 : decode cX3_digest 334 = .ok (.lstore_n 2, 1) := by decide +kernel
theorem dX3_digest_335 : decode cX3_digest 335 = .ok (.iinc 8 1, 3) := by decide +kernel
theorem dX3_digest_338 : decode cX3_digest 338 = .ok (.goto (-27), 3) := by decide +kernel
theorem dX3_digest_341 : decode cX3_digest 341 = .ok (.iinc 4 1, 3) := by decide +kernel
theorem dX3_digest_344 : decode cX3_digest 344 = .ok (.goto (-177), 3) := by decide +kernel
theorem dX3_digest_347 : decode cX3_digest 347 = .ok (.lload_n 2, 1) := by decide +kernel
theorem dX3_digest_348 : decode cX3_digest 348 = .ok (.lreturn, 1) := by decide +kernel
theorem dJ6_numberOfTrailingZeros_0f7a4_0 : decode cJ6_numberOfTrailingZeros_0f7a4 0 = .ok (.iload_n 0, 1) := by decide +kernel
theorem dJ6_numberOfTrailingZeros_0f7a4_1 : decode cJ6_numberOfTrailingZeros_0f7a4 1 = .ok (.iconst (-1), 1) := by decide +kernel
theorem dJ6_numberOfTrailingZeros_0f7a4_2 : decode cJ6_numberOfTrailingZeros_0f7a4 2 = .ok (.ixor, 1) := by decide +kernel
theorem dJ6_numberOfTrailingZeros_0f7a4_3 : decode cJ6_numberOfTrailingZeros_0f7a4 3 = .ok (.iload_n 0, 1) := by decide +kernel
theorem dJ6_numberOfTrailingZeros_0f7a4_4 : decode cJ6_numberOfTrailingZeros_0f7a4 4 = .ok (.iconst 1, 1) := by decide +kernel
theorem dJ6_numberOfTrailingZeros_0f7a4_5 : decode cJ6_numberOfTrailingZeros_0f7a4 5 = .ok (.isub, 1) := by decide +kernel
theorem dJ6_numberOfTrailingZeros_0f7a4_6 : decode cJ6_numberOfTrailingZeros_0f7a4 6 = .ok (.iand, 1) := by decide +kernel
theorem dJ6_numberOfTrailingZeros_0f7a4_7 : decode cJ6_numberOfTrailingZeros_0f7a4 7 = .ok (.istore_n 0, 1) := by decide +kernel
theorem dJ6_numberOfTrailingZeros_0f7a4_8 : decode cJ6_numberOfTrailingZeros_0f7a4 8 = .ok (.iload_n 0, 1) := by decide +kernel
theorem dJ6_numberOfTrailingZeros_0f7a4_9 : decode cJ6_numberOfTrailingZeros_0f7a4 9 = .ok (.ifCond .gt 8, 3) := by decide +kernel
theorem dJ6_numberOfTrailingZeros_0f7a4_12 : decode cJ6_numberOfTrailingZeros_0f7a4 12 = .ok (.iload_n 0, 1) := by decide +kernel
theorem dJ6_numberOfTrailingZeros_0f7a4_13 : decode cJ6_numberOfTrailingZeros_0f7a4 13 = .ok (.bipush 32, 2) := by decide +kernel
theorem dJ6_numberOfTrailingZeros_0f7a4_15 : decode cJ6_numberOfTrailingZeros_0f7a4 15 = .ok (.iand, 1) := by decide +kernel
theorem dJ6_numberOfTrailingZeros_0f7a4_16 : decode cJ6_numberOfTrailingZeros_0f7a4 16 = .ok (.ireturn, 1) := by decide +kernel
theorem dJ6_numberOfTrailingZeros_0f7a4_17 : decode cJ6_numberOfTrailingZeros_0f7a4 17 = .ok (.iconst 1, 1) := by decide +kernel
theorem dJ6_numberOfTrailingZeros_0f7a4_18 : decode cJ6_numberOfTrailingZeros_0f7a4 18 = .ok (.istore_n 1, 1) := by decide +kernel
theorem dJ6_numberOfTrailingZeros_0f7a4_19 : decode cJ6_numberOfTrailingZeros_0f7a4 19 = .ok (.iload_n 0, 1) := by decide +kernel
theorem dJ6_numberOfTrailingZeros_0f7a4_20 : decode cJ6_numberOfTrailingZeros_0f7a4 20 = .ok (.ldc_w 264, 3) := by decide +kernel
theorem dJ6_numberOfTrailingZeros_0f7a4_23 : decode cJ6_numberOfTrailingZeros_0f7a4 23 = .ok (.if_icmp .le 11, 3) := by decide +kernel
theorem dJ6_numberOfTrailingZeros_0f7a4_26 : decode cJ6_numberOfTrailingZeros_0f7a4 26 = .ok (.iinc 1 16, 3) := by decide +kernel
theorem dJ6_numberOfTrailingZeros_0f7a4_29 : decode cJ6_numberOfTrailingZeros_0f7a4 29 = .ok (.iload_n 0, 1) := by decide +kernel
theorem dJ6_numberOfTrailingZeros_0f7a4_30 : decode cJ6_numberOfTrailingZeros_0f7a4 30 = .ok (.bipush 16, 2) := by decide +kernel
theorem dJ6_numberOfTrailingZeros_0f7a4_32 : decode cJ6_numberOfTrailingZeros_0f7a4 32 = .ok (.iushr, 1) := by decide +kernel
theorem dJ6_numberOfTrailingZeros_0f7a4_33 : decode cJ6_numberOfTrailingZeros_0f7a4 33 = .ok (.istore_n 0, 1) := by decide +kernel
theorem dJ6_numberOfTrailingZeros_0f7a4_34 : decode cJ6_numberOfTrailingZeros_0f7a4 34 = .ok (.iload_n 0, 1) := by decide +kernel
theorem dJ6_numberOfTrailingZeros_0f7a4_35 : decode cJ6_numberOfTrailingZeros_0f7a4 35 = .ok (.sipush 256, 3) := by decide +kernel
theorem dJ6_numberOfTrailingZeros_0f7a4_38 : decode cJ6_numberOfTrailingZeros_0f7a4 38 = .ok (.if_icmp .le 11, 3) := by decide +kernel
theorem dJ6_numberOfTrailingZeros_0f7a4_41 : decode cJ6_numberOfTrailingZeros_0f7a4 41 = .ok (.iinc 1 8, 3) := by decide +kernel
theorem dJ6_numberOfTrailingZeros_0f7a4_44 : decode cJ6_numberOfTrailingZeros_0f7a4 44 = .ok (.iload_n 0, 1) := by decide +kernel
theorem dJ6_numberOfTrailingZeros_0f7a4_45 : decode cJ6_numberOfTrailingZeros_0f7a4 45 = .ok (.bipush 8, 2) := by decide +kernel
theorem dJ6_numberOfTrailingZeros_0f7a4_47 : decode cJ6_numberOfTrailingZeros_0f7a4 47 = .ok (.iushr, 1) := by decide +kernel
theorem dJ6_numberOfTrailingZeros_0f7a4_48 : decode cJ6_numberOfTrailingZeros_0f7a4 48 = .ok (.istore_n 0, 1) := by decide +kernel
theorem dJ6_numberOfTrailingZeros_0f7a4_49 : decode cJ6_numberOfTrailingZeros_0f7a4 49 = .ok (.iload_n 0, 1) := by decide +kernel
theorem dJ6_numberOfTrailingZeros_0f7a4_50 : decode cJ6_numberOfTrailingZeros_0f7a4 50 = .ok (.bipush 16, 2) := by decide +kernel
theorem dJ6_numberOfTrailingZeros_0f7a4_52 : decode cJ6_numberOfTrailingZeros_0f7a4 52 = .ok (.if_icmp .le 10, 3) := by decide +kernel
theorem dJ6_numberOfTrailingZeros_0f7a4_55 : decode cJ6_numberOfTrailingZeros_0f7a4 55 = .ok (.iinc 1 4, 3) := by decide +kernel
theorem dJ6_numberOfTrailingZeros_0f7a4_58 : decode cJ6_numberOfTrailingZeros_0f7a4 58 = .ok (.iload_n 0, 1) := by decide +kernel
theorem dJ6_numberOfTrailingZeros_0f7a4_59 : decode cJ6_numberOfTrailingZeros_0f7a4 59 = .ok (.iconst 4, 1) := by decide +kernel
theorem dJ6_numberOfTrailingZeros_0f7a4_60 : decode cJ6_numberOfTrailingZeros_0f7a4 60 = .ok (.iushr, 1) := by decide +kernel
theorem dJ6_numberOfTrailingZeros_0f7a4_61 : decode cJ6_numberOfTrailingZeros_0f7a4 61 = .ok (.istore_n 0, 1) := by decide +kernel
theorem dJ6_numberOfTrailingZeros_0f7a4_62 : decode cJ6_numberOfTrailingZeros_0f7a4 62 = .ok (.iload_n 0, 1) := by decide +kernel
theorem dJ6_numberOfTrailingZeros_0f7a4_63 : decode cJ6_numberOfTrailingZeros_0f7a4 63 = .ok (.iconst 4, 1) := by decide +kernel
theorem dJ6_numberOfTrailingZeros_0f7a4_64 : decode cJ6_numberOfTrailingZeros_0f7a4 64 = .ok (.if_icmp .le 10, 3) := by decide +kernel
theorem dJ6_numberOfTrailingZeros_0f7a4_67 : decode cJ6_numberOfTrailingZeros_0f7a4 67 = .ok (.iinc 1 2, 3) := by decide +kernel
theorem dJ6_numberOfTrailingZeros_0f7a4_70 : decode cJ6_numberOfTrailingZeros_0f7a4 70 = .ok (.iload_n 0, 1) := by decide +kernel
theorem dJ6_numberOfTrailingZeros_0f7a4_71 : decode cJ6_numberOfTrailingZeros_0f7a4 71 = .ok (.iconst 2, 1) := by decide +kernel
theorem dJ6_numberOfTrailingZeros_0f7a4_72 : decode cJ6_numberOfTrailingZeros_0f7a4 72 = .ok (.iushr, 1) := by decide +kernel
theorem dJ6_numberOfTrailingZeros_0f7a4_73 : decode cJ6_numberOfTrailingZeros_0f7a4 73 = .ok (.istore_n 0, 1) := by decide +kernel
theorem dJ6_numberOfTrailingZeros_0f7a4_74 : decode cJ6_numberOfTrailingZeros_0f7a4 74 = .ok (.iload_n 1, 1) := by decide +kernel
theorem dJ6_numberOfTrailingZeros_0f7a4_75 : decode cJ6_numberOfTrailingZeros_0f7a4 75 = .ok (.iload_n 0, 1) := by decide +kernel
theorem dJ6_numberOfTrailingZeros_0f7a4_76 : decode cJ6_numberOfTrailingZeros_0f7a4 76 = .ok (.iconst 1, 1) := by decide +kernel
theorem dJ6_numberOfTrailingZeros_0f7a4_77 : decode cJ6_numberOfTrailingZeros_0f7a4 77 = .ok (.iushr, 1) := by decide +kernel
theorem dJ6_numberOfTrailingZeros_0f7a4_78 : decode cJ6_numberOfTrailingZeros_0f7a4 78 = .ok (.iadd, 1) := by decide +kernel
theorem dJ6_numberOfTrailingZeros_0f7a4_79 : decode cJ6_numberOfTrailingZeros_0f7a4 79 = .ok (.ireturn, 1) := by decide +kernel
theorem dJ6_bitCount_0f7a4_0 : decode cJ6_bitCount_0f7a4 0 = .ok (.iload_n 0, 1) := by decide +kernel
theorem dJ6_bitCount_0f7a4_1 : decode cJ6_bitCount_0f7a4 1 = .ok (.iload_n 0, 1) := by decide +kernel
theorem dJ6_bitCount_0f7a4_2 : decode cJ6_bitCount_0f7a4 2 = .ok (.iconst 1, 1) := by decide +kernel
theorem dJ6_bitCount_0f7a4_3 : decode cJ6_bitCount_0f7a4 3 = .ok (.iushr, 1) := by decide +kernel
theorem dJ6_bitCount_0f7a4_4 : decode cJ6_bitCount_0f7a4 4 = .ok (.ldc_w 265, 3) := by decide +kernel
theorem dJ6_bitCount_0f7a4_7 : decode cJ6_bitCount_0f7a4 7 = .ok (.iand, 1) := by decide +kernel
theorem dJ6_bitCount_0f7a4_8 : decode cJ6_bitCount_0f7a4 8 = .ok (.isub, 1) := by decide +kernel
theorem dJ6_bitCount_0f7a4_9 : decode cJ6_bitCount_0f7a4 9 = .ok (.istore_n 0, 1) := by decide +kernel
theorem dJ6_bitCount_0f7a4_10 : decode cJ6_bitCount_0f7a4 10 = .ok (.iload_n 0, 1) := by decide +kernel
theorem dJ6_bitCount_0f7a4_11 : decode cJ6_bitCount_0f7a4 11 = .ok (.ldc_w 266, 3) := by decide +kernel
theorem dJ6_bitCount_0f7a4_14 : decode cJ6_bitCount_0f7a4 14 = .ok (.iand, 1) := by decide +kernel
theorem dJ6_bitCount_0f7a4_15 : decode cJ6_bitCount_0f7a4 15 = .ok (.iload_n 0, 1) := by decide +kernel
theorem dJ6_bitCount_0f7a4_16 : decode cJ6_bitCount_0f7a4 16 = .ok (.iconst 2, 1) := by decide +kernel
theorem dJ6_bitCount_0f7a4_17 : decode cJ6_bitCount_0f7a4 17 = .ok (.iushr, 1) := by decide +kernel
theorem dJ6_bitCount_0f7a4_18 : decode cJ6_bitCount_0f7a4 18 = .ok (.ldc_w 266, 3) := by decide +kernel
theorem dJ6_bitCount_0f7a4_21 : decode cJ6_bitCount_0f7a4 21 = .ok (.iand, 1) := by decide +kernel
theorem dJ6_bitCount_0f7a4_22 : decode cJ6_bitCount_0f7a4 22 = .ok (.iadd, 1) := by decide +kernel
theorem dJ6_bitCount_0f7a4_23 : decode cJ6_bitCount_0f7a4 23 = .ok (.istore_n 0, 1) := by decide +kernel
theorem dJ6_bitCount_0f7a4_24 : decode cJ6_bitCount_0f7a4 24 = .ok (.iload_n 0, 1) := by decide +kernel
theorem dJ6_bitCount_0f7a4_25 : decode cJ6_bitCount_0f7a4 25 = .ok (.iload_n 0, 1) := by decide +kernel
theorem dJ6_bitCount_0f7a4_26 : decode cJ6_bitCount_0f7a4 26 = .ok (.iconst 4, 1) := by decide +kernel
theorem dJ6_bitCount_0f7a4_27 : decode cJ6_bitCount_0f7a4 27 = .ok (.iushr, 1) := by decide +kernel
theorem dJ6_bitCount_0f7a4_28 : decode cJ6_bitCount_0f7a4 28 = .ok (.iadd, 1) := by decide +kernel
theorem dJ6_bitCount_0f7a4_29 : decode cJ6_bitCount_0f7a4 29 = .ok (.ldc_w 267, 3) := by decide +kernel
theorem dJ6_bitCount_0f7a4_32 : decode cJ6_bitCount_0f7a4 32 = .ok (.iand, 1) := by decide +kernel
theorem dJ6_bitCount_0f7a4_33 : decode cJ6_bitCount_0f7a4 33 = .ok (.istore_n 0, 1) := by decide +kernel
theorem dJ6_bitCount_0f7a4_34 : decode cJ6_bitCount_0f7a4 34 = .ok (.iload_n 0, 1) := by decide +kernel
theorem dJ6_bitCount_0f7a4_35 : decode cJ6_bitCount_0f7a4 35 = .ok (.iload_n 0, 1) := by decide +kernel
theorem dJ6_bitCount_0f7a4_36 : decode cJ6_bitCount_0f7a4 36 = .ok (.bipush 8, 2) := by decide +kernel
theorem dJ6_bitCount_0f7a4_38 : decode cJ6_bitCount_0f7a4 38 = .ok (.iushr, 1) := by decide +kernel
theorem dJ6_bitCount_0f7a4_39 : decode cJ6_bitCount_0f7a4 39 = .ok (.iadd, 1) := by decide +kernel
theorem dJ6_bitCount_0f7a4_40 : decode cJ6_bitCount_0f7a4 40 = .ok (.istore_n 0, 1) := by decide +kernel
theorem dJ6_bitCount_0f7a4_41 : decode cJ6_bitCount_0f7a4 41 = .ok (.iload_n 0, 1) := by decide +kernel
theorem dJ6_bitCount_0f7a4_42 : decode cJ6_bitCount_0f7a4 42 = .ok (.iload_n 0, 1) := by decide +kernel
theorem dJ6_bitCount_0f7a4_43 : decode cJ6_bitCount_0f7a4 43 = .ok (.bipush 16, 2) := by decide +kernel
theorem dJ6_bitCount_0f7a4_45 : decode cJ6_bitCount_0f7a4 45 = .ok (.iushr, 1) := by decide +kernel
theorem dJ6_bitCount_0f7a4_46 : decode cJ6_bitCount_0f7a4 46 = .ok (.iadd, 1) := by decide +kernel
theorem dJ6_bitCount_0f7a4_47 : decode cJ6_bitCount_0f7a4 47 = .ok (.istore_n 0, 1) := by decide +kernel
theorem dJ6_bitCount_0f7a4_48 : decode cJ6_bitCount_0f7a4 48 = .ok (.iload_n 0, 1) := by decide +kernel
theorem dJ6_bitCount_0f7a4_49 : decode cJ6_bitCount_0f7a4 49 = .ok (.bipush 63, 2) := by decide +kernel
theorem dJ6_bitCount_0f7a4_51 : decode cJ6_bitCount_0f7a4 51 = .ok (.iand, 1) := by decide +kernel
theorem dJ6_bitCount_0f7a4_52 : decode cJ6_bitCount_0f7a4 52 = .ok (.ireturn, 1) := by decide +kernel
theorem dJ9_floorMod_7cf53_0 : decode cJ9_floorMod_7cf53 0 = .ok (.iload_n 0, 1) := by decide +kernel
theorem dJ9_floorMod_7cf53_1 : decode cJ9_floorMod_7cf53 1 = .ok (.iload_n 1, 1) := by decide +kernel
theorem dJ9_floorMod_7cf53_2 : decode cJ9_floorMod_7cf53 2 = .ok (.irem, 1) := by decide +kernel
theorem dJ9_floorMod_7cf53_3 : decode cJ9_floorMod_7cf53 3 = .ok (.istore_n 2, 1) := by decide +kernel
theorem dJ9_floorMod_7cf53_4 : decode cJ9_floorMod_7cf53 4 = .ok (.iload_n 0, 1) := by decide +kernel
theorem dJ9_floorMod_7cf53_5 : decode cJ9_floorMod_7cf53 5 = .ok (.iload_n 1, 1) := by decide +kernel
theorem dJ9_floorMod_7cf53_6 : decode cJ9_floorMod_7cf53 6 = .ok (.ixor, 1) := by decide +kernel
theorem dJ9_floorMod_7cf53_7 : decode cJ9_floorMod_7cf53 7 = .ok (.ifCond .ge 11, 3) := by decide +kernel
theorem dJ9_floorMod_7cf53_10 : decode cJ9_floorMod_7cf53 10 = .ok (.iload_n 2, 1) := by decide +kernel
theorem dJ9_floorMod_7cf53_11 : decode cJ9_floorMod_7cf53 11 = .ok (.ifCond .eq 7, 3) := by decide +kernel
theorem dJ9_floorMod_7cf53_14 : decode cJ9_floorMod_7cf53 14 = .ok (.iload_n 2, 1) := by decide +kernel
theorem dJ9_floorMod_7cf53_15 : decode cJ9_floorMod_7cf53 15 = .ok (.iload_n 1, 1) := by decide +kernel
theorem dJ9_floorMod_7cf53_16 : decode cJ9_floorMod_7cf53 16 = .ok (.iadd, 1) := by decide +kernel
theorem dJ9_floorMod_7cf53_17 : decode cJ9_floorMod_7cf53 17 = .ok (.ireturn, 1) := by decide +kernel
theorem dJ9_floorMod_7cf53_18 : decode cJ9_floorMod_7cf53 18 = .ok (.iload_n 2, 1) := by decide +kernel
theorem dJ9_floorMod_7cf53_19 : decode cJ9_floorMod_7cf53 19 = .ok (.ireturn, 1) := by decide +kernel
theorem dJ9_abs_0f7a4_0 : decode cJ9_abs_0f7a4 0 = .ok (.iload_n 0, 1) := by decide +kernel
theorem dJ9_abs_0f7a4_1 : decode cJ9_abs_0f7a4 1 = .ok (.ifCond .ge 8, 3) := by decide +kernel
theorem dJ9_abs_0f7a4_4 : decode cJ9_abs_0f7a4 4 = .ok (.iload_n 0, 1) := by decide +kernel
theorem dJ9_abs_0f7a4_5 : decode cJ9_abs_0f7a4 5 = .ok (.ineg, 1) := by decide +kernel
theorem dJ9_abs_0f7a4_6 : decode cJ9_abs_0f7a4 6 = .ok (.goto 4, 3) := by decide +kernel
theorem dJ9_abs_0f7a4_9 : decode cJ9_abs_0f7a4 9 = .ok (.iload_n 0, 1) := by decide +kernel
theorem dJ9_abs_0f7a4_10 : decode cJ9_abs_0f7a4 10 = .ok (.ireturn, 1) := by decide +kernel
theorem dJ9_max_7cf53_0 : decode cJ9_max_7cf53 0 = .ok (.iload_n 0, 1) := by decide +kernel
theorem dJ9_max_7cf53_1 : decode cJ9_max_7cf53 1 = .ok (.iload_n 1, 1) := by decide +kernel
theorem dJ9_max_7cf53_2 : decode cJ9_max_7cf53 2 = .ok (.if_icmp .lt 7, 3) := by decide +kernel
theorem dJ9_max_7cf53_5 : decode cJ9_max_7cf53 5 = .ok (.iload_n 0, 1) := by decide +kernel
theorem dJ9_max_7cf53_6 : decode cJ9_max_7cf53 6 = .ok (.goto 4, 3) := by decide +kernel
theorem dJ9_max_7cf53_9 : decode cJ9_max_7cf53 9 = .ok (.iload_n 1, 1) := by decide +kernel
theorem dJ9_max_7cf53_10 : decode cJ9_max_7cf53 10 = .ok (.ireturn, 1) := by decide +kernel
end
section
theorem dL_addGun_0 : decode cL_addGun 0 = .ok (.aload_n 3, 1) := by decide +kernel
theorem dL_addGun_1 : decode cL_addGun 1 = .ok (.iconst 0, 1) := by decide +kernel
theorem dL_addGun_2 : decode cL_addGun 2 = .ok (.aload_n 0, 1) := by decide +kernel
theorem dL_addGun_3 : decode cL_addGun 3 = .ok (.iload_n 1, 1) := by decide +kernel
theorem dL_addGun_4 : decode cL_addGun 4 = .ok (.iload_n 2, 1) := by decide +kernel
theorem dL_addGun_5 : decode cL_addGun 5 = .ok (.invokevirtual 7, 3) := by decide +kernel
theorem dL_addGun_8 : decode cL_addGun 8 = .ok (.i2l, 1) := by decide +kernel
theorem dL_addGun_9 : decode cL_addGun 9 = .ok (.lastore, 1) := by decide +kernel
theorem dL_addGun_10 : decode cL_addGun 10 = .ok (.goto 11, 3) := by decide +kernel
theorem dL_addGun_13 : decode cL_addGun 13 = .ok (.astore 4, 2) := by decide +kernel
theorem dL_addGun_15 : decode cL_addGun 15 = .ok (.iconst 1, 1) := by decide +kernel
theorem dL_addGun_16 : decode cL_addGun 16 = .ok (.ireturn, 1) := by decide +kernel
theorem dL_addGun_17 : decode cL_addGun 17 = .ok (.astore 4, 2) := by decide +kernel
theorem dL_addGun_19 : decode cL_addGun 19 = .ok (.iconst 2, 1) := by decide +kernel
theorem dL_addGun_20 : decode cL_addGun 20 = .ok (.ireturn, 1) := by decide +kernel
theorem dL_addGun_21 : decode cL_addGun 21 = .ok (.iconst 0, 1) := by decide +kernel
theorem dL_addGun_22 : decode cL_addGun 22 = .ok (.ireturn, 1) := by decide +kernel
theorem dL_setTrap_0 : decode cL_setTrap 0 = .ok (.aload 4, 2) := by decide +kernel
theorem dL_setTrap_2 : decode cL_setTrap 2 = .ok (.iconst 0, 1) := by decide +kernel
theorem dL_setTrap_3 : decode cL_setTrap 3 = .ok (.aload_n 0, 1) := by decide +kernel
theorem dL_setTrap_4 : decode cL_setTrap 4 = .ok (.iload_n 1, 1) := by decide +kernel
theorem dL_setTrap_5 : decode cL_setTrap 5 = .ok (.iload_n 2, 1) := by decide +kernel
theorem dL_setTrap_6 : decode cL_setTrap 6 = .ok (.iload_n 3, 1) := by decide +kernel
theorem dL_setTrap_7 : decode cL_setTrap 7 = .ok (.invokevirtual 17, 3) := by decide +kernel
theorem dL_setTrap_10 : decode cL_setTrap 10 = .ok (.i2l, 1) := by decide +kernel
theorem dL_setTrap_11 : decode cL_setTrap 11 = .ok (.lastore, 1) := by decide +kernel
theorem dL_setTrap_12 : decode cL_setTrap 12 = .ok (.goto 11, 3) := by decide +kernel
theorem dL_setTrap_15 : decode cL_setTrap 15 = .ok (.astore 5, 2) := by decide +kernel
theorem dL_setTrap_17 : decode cL_setTrap 17 = .ok (.iconst 1, 1) := by decide +kernel
theorem dL_setTrap_18 : decode cL_setTrap 18 = .ok (.ireturn, 1) := by decide +kernel
theorem dL_setTrap_19 : decode cL_setTrap 19 = .ok (.astore 5, 2) := by decide +kernel
theorem dL_setTrap_21 : decode cL_setTrap 21 = .ok (.iconst 2, 1) := by decide +kernel
theorem dL_setTrap_22 : decode cL_setTrap 22 = .ok (.ireturn, 1) := by decide +kernel
theorem dL_setTrap_23 : decode cL_setTrap 23 = .ok (.iconst 0, 1) := by decide +kernel
theorem dL_setTrap_24 : decode cL_setTrap 24 = .ok (.ireturn, 1) := by decide +kernel
theorem dL_rest_0 : decode cL_rest 0 = .ok (.aload_n 2, 1) := by decide +kernel
theorem dL_rest_1 : decode cL_rest 1 = .ok (.iconst 0, 1) := by decide +kernel
theorem dL_rest_2 : decode cL_rest 2 = .ok (.aload_n 0, 1) := by decide +kernel
theorem dL_rest_3 : decode cL_rest 3 = .ok (.iload_n 1, 1) := by decide +kernel
theorem dL_rest_4 : decode cL_rest 4 = .ok (.invokevirtual 23, 3) := by decide +kernel
theorem dL_rest_7 : decode cL_rest 7 = .ok (.i2l, 1) := by decide +kernel
theorem dL_rest_8 : decode cL_rest 8 = .ok (.lastore, 1) := by decide +kernel
theorem dL_rest_9 : decode cL_rest 9 = .ok (.goto 6, 3) := by decide +kernel
theorem dL_rest_12 : decode cL_rest 12 = .ok (.astore_n 3, 1) := by decide +kernel
theorem dL_rest_13 : decode cL_rest 13 = .ok (.iconst 1, 1) := by decide +kernel
theorem dL_rest_14 : decode cL_rest 14 = .ok (.ireturn, 1) := by decide +kernel
theorem dL_rest_15 : decode cL_rest 15 = .ok (.iconst 0, 1) := by decide +kernel
theorem dL_rest_16 : decode cL_rest 16 = .ok (.ireturn, 1) := by decide +kernel
theorem dL_pass_0 : decode cL_pass 0 = .ok (.aload_n 2, 1) := by decide +kernel
theorem dL_pass_1 : decode cL_pass 1 = .ok (.iconst 0, 1) := by decide +kernel
theorem dL_pass_2 : decode cL_pass 2 = .ok (.aload_n 0, 1) := by decide +kernel
theorem dL_pass_3 : decode cL_pass 3 = .ok (.iload_n 1, 1) := by decide +kernel
theorem dL_pass_4 : decode cL_pass 4 = .ok (.invokevirtual 27, 3) := by decide +kernel
theorem dL_pass_7 : decode cL_pass 7 = .ok (.i2l, 1) := by decide +kernel
theorem dL_pass_8 : decode cL_pass 8 = .ok (.lastore, 1) := by decide +kernel
theorem dL_pass_9 : decode cL_pass 9 = .ok (.goto 6, 3) := by decide +kernel
theorem dL_pass_12 : decode cL_pass 12 = .ok (.astore_n 3, 1) := by decide +kernel
theorem dL_pass_13 : decode cL_pass 13 = .ok (.iconst 1, 1) := by decide +kernel
theorem dL_pass_14 : decode cL_pass 14 = .ok (.ireturn, 1) := by decide +kernel
theorem dL_pass_15 : decode cL_pass 15 = .ok (.iconst 0, 1) := by decide +kernel
theorem dL_pass_16 : decode cL_pass 16 = .ok (.ireturn, 1) := by decide +kernel
theorem dL_shootOff_0 : decode cL_shootOff 0 = .ok (.aload_n 1, 1) := by decide +kernel
theorem dL_shootOff_1 : decode cL_shootOff 1 = .ok (.iconst 0, 1) := by decide +kernel
theorem dL_shootOff_2 : decode cL_shootOff 2 = .ok (.aload_n 0, 1) := by decide +kernel
theorem dL_shootOff_3 : decode cL_shootOff 3 = .ok (.invokevirtual 30, 3) := by decide +kernel
theorem dL_shootOff_6 : decode cL_shootOff 6 = .ok (.i2l, 1) := by decide +kernel
theorem dL_shootOff_7 : decode cL_shootOff 7 = .ok (.lastore, 1) := by decide +kernel
theorem dL_shootOff_8 : decode cL_shootOff 8 = .ok (.goto 6, 3) := by decide +kernel
theorem dL_shootOff_11 : decode cL_shootOff 11 = .ok (.astore_n 2, 1) := by decide +kernel
theorem dL_shootOff_12 : decode cL_shootOff 12 = .ok (.iconst 1, 1) := by decide +kernel
theorem dL_shootOff_13 : decode cL_shootOff 13 = .ok (.ireturn, 1) := by decide +kernel
theorem dL_shootOff_14 : decode cL_shootOff 14 = .ok (.iconst 0, 1) := by decide +kernel
theorem dL_shootOff_15 : decode cL_shootOff 15 = .ok (.ireturn, 1) := by decide +kernel
theorem dL_angle_0 : decode cL_angle 0 = .ok (.aload_n 3, 1) := by decide +kernel
theorem dL_angle_1 : decode cL_angle 1 = .ok (.iconst 0, 1) := by decide +kernel
theorem dL_angle_2 : decode cL_angle 2 = .ok (.aload_n 0, 1) := by decide +kernel
theorem dL_angle_3 : decode cL_angle 3 = .ok (.iload_n 1, 1) := by decide +kernel
theorem dL_angle_4 : decode cL_angle 4 = .ok (.iload_n 2, 1) := by decide +kernel
theorem dL_angle_5 : decode cL_angle 5 = .ok (.invokevirtual 34, 3) := by decide +kernel
theorem dL_angle_8 : decode cL_angle 8 = .ok (.i2l, 1) := by decide +kernel
theorem dL_angle_9 : decode cL_angle 9 = .ok (.lastore, 1) := by decide +kernel
theorem dL_angle_10 : decode cL_angle 10 = .ok (.goto 7, 3) := by decide +kernel
theorem dL_angle_13 : decode cL_angle 13 = .ok (.astore 4, 2) := by decide +kernel
theorem dL_angle_15 : decode cL_angle 15 = .ok (.iconst 1, 1) := by decide +kernel
theorem dL_angle_16 : decode cL_angle 16 = .ok (.ireturn, 1) := by decide +kernel
theorem dL_angle_17 : decode cL_angle 17 = .ok (.iconst 0, 1) := by decide +kernel
theorem dL_angle_18 : decode cL_angle 18 = .ok (.ireturn, 1) := by decide +kernel
theorem dL_hardestClay_0 : decode cL_hardestClay 0 = .ok (.aload_n 2, 1) := by decide +kernel
theorem dL_hardestClay_1 : decode cL_hardestClay 1 = .ok (.iconst 0, 1) := by decide +kernel
theorem dL_hardestClay_2 : decode cL_hardestClay 2 = .ok (.aload_n 0, 1) := by decide +kernel
theorem dL_hardestClay_3 : decode cL_hardestClay 3 = .ok (.iload_n 1, 1) := by decide +kernel
theorem dL_hardestClay_4 : decode cL_hardestClay 4 = .ok (.invokevirtual 37, 3) := by decide +kernel
theorem dL_hardestClay_7 : decode cL_hardestClay 7 = .ok (.i2l, 1) := by decide +kernel
theorem dL_hardestClay_8 : decode cL_hardestClay 8 = .ok (.lastore, 1) := by decide +kernel
theorem dL_hardestClay_9 : decode cL_hardestClay 9 = .ok (.goto 6, 3) := by decide +kernel
theorem dL_hardestClay_12 : decode cL_hardestClay 12 = .ok (.astore_n 3, 1) := by decide +kernel
theorem dL_hardestClay_13 : decode cL_hardestClay 13 = .ok (.iconst 1, 1) := by decide +kernel
theorem dL_hardestClay_14 : decode cL_hardestClay 14 = .ok (.ireturn, 1) := by decide +kernel
theorem dL_hardestClay_15 : decode cL_hardestClay 15 = .ok (.iconst 0, 1) := by decide +kernel
theorem dL_hardestClay_16 : decode cL_hardestClay 16 = .ok (.ireturn, 1) := by decide +kernel
theorem dL_standOf_0 : decode cL_standOf 0 = .ok (.aload_n 2, 1) := by decide +kernel
theorem dL_standOf_1 : decode cL_standOf 1 = .ok (.iconst 0, 1) := by decide +kernel
theorem dL_standOf_2 : decode cL_standOf 2 = .ok (.aload_n 0, 1) := by decide +kernel
theorem dL_standOf_3 : decode cL_standOf 3 = .ok (.iload_n 1, 1) := by decide +kernel
theorem dL_standOf_4 : decode cL_standOf 4 = .ok (.invokevirtual 40, 3) := by decide +kernel
theorem dL_standOf_7 : decode cL_standOf 7 = .ok (.i2l, 1) := by decide +kernel
theorem dL_standOf_8 : decode cL_standOf 8 = .ok (.lastore, 1) := by decide +kernel
theorem dL_standOf_9 : decode cL_standOf 9 = .ok (.goto 6, 3) := by decide +kernel
theorem dL_standOf_12 : decode cL_standOf 12 = .ok (.astore_n 3, 1) := by decide +kernel
theorem dL_standOf_13 : decode cL_standOf 13 = .ok (.iconst 1, 1) := by decide +kernel
theorem dL_standOf_14 : decode cL_standOf 14 = .ok (.ireturn, 1) := by decide +kernel
theorem dL_standOf_15 : decode cL_standOf 15 = .ok (.iconst 0, 1) := by decide +kernel
theorem dL_standOf_16 : decode cL_standOf 16 = .ok (.ireturn, 1) := by decide +kernel
theorem dL_angleFor_0 : decode cL_angleFor 0 = .ok (.aload_n 2, 1) := by decide +kernel
theorem dL_angleFor_1 : decode cL_angleFor 1 = .ok (.iconst 0, 1) := by decide +kernel
theorem dL_angleFor_2 : decode cL_angleFor 2 = .ok (.aload_n 0, 1) := by decide +kernel
theorem dL_angleFor_3 : decode cL_angleFor 3 = .ok (.iload_n 1, 1) := by decide +kernel
theorem dL_angleFor_4 : decode cL_angleFor 4 = .ok (.invokevirtual 43, 3) := by decide +kernel
theorem dL_angleFor_7 : decode cL_angleFor 7 = .ok (.i2l, 1) := by decide +kernel
theorem dL_angleFor_8 : decode cL_angleFor 8 = .ok (.lastore, 1) := by decide +kernel
theorem dL_angleFor_9 : decode cL_angleFor 9 = .ok (.goto 6, 3) := by decide +kernel
theorem dL_angleFor_12 : decode cL_angleFor 12 = .ok (.astore_n 3, 1) := by decide +kernel
theorem dL_angleFor_13 : decode cL_angleFor 13 = .ok (.iconst 1, 1) := by decide +kernel
theorem dL_angleFor_14 : decode cL_angleFor 14 = .ok (.ireturn, 1) := by decide +kernel
theorem dL_angleFor_15 : decode cL_angleFor 15 = .ok (.iconst 0, 1) := by decide +kernel
theorem dL_angleFor_16 : decode cL_angleFor 16 = .ok (.ireturn, 1) := by decide +kernel
theorem dL_scoreOf_0 : decode cL_scoreOf 0 = .ok (.aload_n 2, 1) := by decide +kernel
theorem dL_scoreOf_1 : decode cL_scoreOf 1 = .ok (.iconst 0, 1) := by decide +kernel
theorem dL_scoreOf_2 : decode cL_scoreOf 2 = .ok (.aload_n 0, 1) := by decide +kernel
theorem dL_scoreOf_3 : decode cL_scoreOf 3 = .ok (.iload_n 1, 1) := by decide +kernel
theorem dL_scoreOf_4 : decode cL_scoreOf 4 = .ok (.invokevirtual 46, 3) := by decide +kernel
theorem dL_scoreOf_7 : decode cL_scoreOf 7 = .ok (.i2l, 1) := by decide +kernel
theorem dL_scoreOf_8 : decode cL_scoreOf 8 = .ok (.lastore, 1) := by decide +kernel
theorem dL_scoreOf_9 : decode cL_scoreOf 9 = .ok (.goto 6, 3) := by decide +kernel
theorem dL_scoreOf_12 : decode cL_scoreOf 12 = .ok (.astore_n 3, 1) := by decide +kernel
theorem dL_scoreOf_13 : decode cL_scoreOf 13 = .ok (.iconst 1, 1) := by decide +kernel
theorem dL_scoreOf_14 : decode cL_scoreOf 14 = .ok (.ireturn, 1) := by decide +kernel
theorem dL_scoreOf_15 : decode cL_scoreOf 15 = .ok (.iconst 0, 1) := by decide +kernel
theorem dL_scoreOf_16 : decode cL_scoreOf 16 = .ok (.ireturn, 1) := by decide +kernel
theorem dL_firstsOf_0 : decode cL_firstsOf 0 = .ok (.aload_n 2, 1) := by decide +kernel
theorem dL_firstsOf_1 : decode cL_firstsOf 1 = .ok (.iconst 0, 1) := by decide +kernel
theorem dL_firstsOf_2 : decode cL_firstsOf 2 = .ok (.aload_n 0, 1) := by decide +kernel
theorem dL_firstsOf_3 : decode cL_firstsOf 3 = .ok (.iload_n 1, 1) := by decide +kernel
theorem dL_firstsOf_4 : decode cL_firstsOf 4 = .ok (.invokevirtual 49, 3) := by decide +kernel
theorem dL_firstsOf_7 : decode cL_firstsOf 7 = .ok (.i2l, 1) := by decide +kernel
theorem dL_firstsOf_8 : decode cL_firstsOf 8 = .ok (.lastore, 1) := by decide +kernel
theorem dL_firstsOf_9 : decode cL_firstsOf 9 = .ok (.goto 6, 3) := by decide +kernel
theorem dL_firstsOf_12 : decode cL_firstsOf 12 = .ok (.astore_n 3, 1) := by decide +kernel
theorem dL_firstsOf_13 : decode cL_firstsOf 13 = .ok (.iconst 1, 1) := by decide +kernel
theorem dL_firstsOf_14 : decode cL_firstsOf 14 = .ok (.ireturn, 1) := by decide +kernel
theorem dL_firstsOf_15 : decode cL_firstsOf 15 = .ok (.iconst 0, 1) := by decide +kernel
theorem dL_firstsOf_16 : decode cL_firstsOf 16 = .ok (.ireturn, 1) := by decide +kernel
theorem dL_missesOf_0 : decode cL_missesOf 0 = .ok (.aload_n 2, 1) := by decide +kernel
theorem dL_missesOf_1 : decode cL_missesOf 1 = .ok (.iconst 0, 1) := by decide +kernel
theorem dL_missesOf_2 : decode cL_missesOf 2 = .ok (.aload_n 0, 1) := by decide +kernel
theorem dL_missesOf_3 : decode cL_missesOf 3 = .ok (.iload_n 1, 1) := by decide +kernel
theorem dL_missesOf_4 : decode cL_missesOf 4 = .ok (.invokevirtual 52, 3) := by decide +kernel
theorem dL_missesOf_7 : decode cL_missesOf 7 = .ok (.i2l, 1) := by decide +kernel
theorem dL_missesOf_8 : decode cL_missesOf 8 = .ok (.lastore, 1) := by decide +kernel
theorem dL_missesOf_9 : decode cL_missesOf 9 = .ok (.goto 6, 3) := by decide +kernel
theorem dL_missesOf_12 : decode cL_missesOf 12 = .ok (.astore_n 3, 1) := by decide +kernel
theorem dL_missesOf_13 : decode cL_missesOf 13 = .ok (.iconst 1, 1) := by decide +kernel
theorem dL_missesOf_14 : decode cL_missesOf 14 = .ok (.ireturn, 1) := by decide +kernel
theorem dL_missesOf_15 : decode cL_missesOf 15 = .ok (.iconst 0, 1) := by decide +kernel
theorem dL_missesOf_16 : decode cL_missesOf 16 = .ok (.ireturn, 1) := by decide +kernel
theorem dL_fatigueOf_0 : decode cL_fatigueOf 0 = .ok (.aload_n 2, 1) := by decide +kernel
theorem dL_fatigueOf_1 : decode cL_fatigueOf 1 = .ok (.iconst 0, 1) := by decide +kernel
theorem dL_fatigueOf_2 : decode cL_fatigueOf 2 = .ok (.aload_n 0, 1) := by decide +kernel
theorem dL_fatigueOf_3 : decode cL_fatigueOf 3 = .ok (.iload_n 1, 1) := by decide +kernel
theorem dL_fatigueOf_4 : decode cL_fatigueOf 4 = .ok (.invokevirtual 55, 3) := by decide +kernel
theorem dL_fatigueOf_7 : decode cL_fatigueOf 7 = .ok (.i2l, 1) := by decide +kernel
theorem dL_fatigueOf_8 : decode cL_fatigueOf 8 = .ok (.lastore, 1) := by decide +kernel
theorem dL_fatigueOf_9 : decode cL_fatigueOf 9 = .ok (.goto 6, 3) := by decide +kernel
theorem dL_fatigueOf_12 : decode cL_fatigueOf 12 = .ok (.astore_n 3, 1) := by decide +kernel
theorem dL_fatigueOf_13 : decode cL_fatigueOf 13 = .ok (.iconst 1, 1) := by decide +kernel
theorem dL_fatigueOf_14 : decode cL_fatigueOf 14 = .ok (.ireturn, 1) := by decide +kernel
theorem dL_fatigueOf_15 : decode cL_fatigueOf 15 = .ok (.iconst 0, 1) := by decide +kernel
theorem dL_fatigueOf_16 : decode cL_fatigueOf 16 = .ok (.ireturn, 1) := by decide +kernel
theorem dL_wouldHit_0 : decode cL_wouldHit 0 = .ok (.aload_n 2, 1) := by decide +kernel
theorem dL_wouldHit_1 : decode cL_wouldHit 1 = .ok (.iconst 0, 1) := by decide +kernel
theorem dL_wouldHit_2 : decode cL_wouldHit 2 = .ok (.aload_n 0, 1) := by decide +kernel
theorem dL_wouldHit_3 : decode cL_wouldHit 3 = .ok (.iload_n 1, 1) := by decide +kernel
theorem dL_wouldHit_4 : decode cL_wouldHit 4 = .ok (.invokevirtual 58, 3) := by decide +kernel
theorem dL_wouldHit_7 : decode cL_wouldHit 7 = .ok (.i2l, 1) := by decide +kernel
theorem dL_wouldHit_8 : decode cL_wouldHit 8 = .ok (.lastore, 1) := by decide +kernel
theorem dL_wouldHit_9 : decode cL_wouldHit 9 = .ok (.goto 6, 3) := by decide +kernel
theorem dL_wouldHit_12 : decode cL_wouldHit 12 = .ok (.astore_n 3, 1) := by decide +kernel
theorem dL_wouldHit_13 : decode cL_wouldHit 13 = .ok (.iconst 1, 1) := by decide +kernel
theorem dL_wouldHit_14 : decode cL_wouldHit 14 = .ok (.ireturn, 1) := by decide +kernel
theorem dL_wouldHit_15 : decode cL_wouldHit 15 = .ok (.iconst 0, 1) := by decide +kernel
theorem dL_wouldHit_16 : decode cL_wouldHit 16 = .ok (.ireturn, 1) := by decide +kernel
theorem dL_rankOf_0 : decode cL_rankOf 0 = .ok (.aload_n 2, 1) := by decide +kernel
theorem dL_rankOf_1 : decode cL_rankOf 1 = .ok (.iconst 0, 1) := by decide +kernel
theorem dL_rankOf_2 : decode cL_rankOf 2 = .ok (.aload_n 0, 1) := by decide +kernel
theorem dL_rankOf_3 : decode cL_rankOf 3 = .ok (.iload_n 1, 1) := by decide +kernel
theorem dL_rankOf_4 : decode cL_rankOf 4 = .ok (.invokevirtual 61, 3) := by decide +kernel
theorem dL_rankOf_7 : decode cL_rankOf 7 = .ok (.i2l, 1) := by decide +kernel
theorem dL_rankOf_8 : decode cL_rankOf 8 = .ok (.lastore, 1) := by decide +kernel
theorem dL_rankOf_9 : decode cL_rankOf 9 = .ok (.goto 6, 3) := by decide +kernel
theorem dL_rankOf_12 : decode cL_rankOf 12 = .ok (.astore_n 3, 1) := by decide +kernel
theorem dL_rankOf_13 : decode cL_rankOf 13 = .ok (.iconst 1, 1) := by decide +kernel
theorem dL_rankOf_14 : decode cL_rankOf 14 = .ok (.ireturn, 1) := by decide +kernel
theorem dL_rankOf_15 : decode cL_rankOf 15 = .ok (.iconst 0, 1) := by decide +kernel
theorem dL_rankOf_16 : decode cL_rankOf 16 = .ok (.ireturn, 1) := by decide +kernel
theorem dL_scoreIn_0 : decode cL_scoreIn 0 = .ok (.aload_n 3, 1) := by decide +kernel
theorem dL_scoreIn_1 : decode cL_scoreIn 1 = .ok (.iconst 0, 1) := by decide +kernel
theorem dL_scoreIn_2 : decode cL_scoreIn 2 = .ok (.aload_n 0, 1) := by decide +kernel
theorem dL_scoreIn_3 : decode cL_scoreIn 3 = .ok (.iload_n 1, 1) := by decide +kernel
theorem dL_scoreIn_4 : decode cL_scoreIn 4 = .ok (.iload_n 2, 1) := by decide +kernel
theorem dL_scoreIn_5 : decode cL_scoreIn 5 = .ok (.invokevirtual 64, 3) := by decide +kernel
theorem dL_scoreIn_8 : decode cL_scoreIn 8 = .ok (.i2l, 1) := by decide +kernel
theorem dL_scoreIn_9 : decode cL_scoreIn 9 = .ok (.lastore, 1) := by decide +kernel
theorem dL_scoreIn_10 : decode cL_scoreIn 10 = .ok (.goto 11, 3) := by decide +kernel
theorem dL_scoreIn_13 : decode cL_scoreIn 13 = .ok (.astore 4, 2) := by decide +kernel
theorem dL_scoreIn_15 : decode cL_scoreIn 15 = .ok (.iconst 1, 1) := by decide +kernel
theorem dL_scoreIn_16 : decode cL_scoreIn 16 = .ok (.ireturn, 1) := by decide +kernel
theorem dL_scoreIn_17 : decode cL_scoreIn 17 = .ok (.astore 4, 2) := by decide +kernel
theorem dL_scoreIn_19 : decode cL_scoreIn 19 = .ok (.iconst 2, 1) := by decide +kernel
theorem dL_scoreIn_20 : decode cL_scoreIn 20 = .ok (.ireturn, 1) := by decide +kernel
theorem dL_scoreIn_21 : decode cL_scoreIn 21 = .ok (.iconst 0, 1) := by decide +kernel
theorem dL_scoreIn_22 : decode cL_scoreIn 22 = .ok (.ireturn, 1) := by decide +kernel
theorem dL_turnsUntilMiss_0 : decode cL_turnsUntilMiss 0 = .ok (.aload_n 2, 1) := by decide +kernel
theorem dL_turnsUntilMiss_1 : decode cL_turnsUntilMiss 1 = .ok (.iconst 0, 1) := by decide +kernel
theorem dL_turnsUntilMiss_2 : decode cL_turnsUntilMiss 2 = .ok (.aload_n 0, 1) := by decide +kernel
theorem dL_turnsUntilMiss_3 : decode cL_turnsUntilMiss 3 = .ok (.iload_n 1, 1) := by decide +kernel
theorem dL_turnsUntilMiss_4 : decode cL_turnsUntilMiss 4 = .ok (.invokevirtual 67, 3) := by decide +kernel
theorem dL_turnsUntilMiss_7 : decode cL_turnsUntilMiss 7 = .ok (.i2l, 1) := by decide +kernel
theorem dL_turnsUntilMiss_8 : decode cL_turnsUntilMiss 8 = .ok (.lastore, 1) := by decide +kernel
theorem dL_turnsUntilMiss_9 : decode cL_turnsUntilMiss 9 = .ok (.goto 6, 3) := by decide +kernel
theorem dL_turnsUntilMiss_12 : decode cL_turnsUntilMiss 12 = .ok (.astore_n 3, 1) := by decide +kernel
theorem dL_turnsUntilMiss_13 : decode cL_turnsUntilMiss 13 = .ok (.iconst 1, 1) := by decide +kernel
theorem dL_turnsUntilMiss_14 : decode cL_turnsUntilMiss 14 = .ok (.ireturn, 1) := by decide +kernel
theorem dL_turnsUntilMiss_15 : decode cL_turnsUntilMiss 15 = .ok (.iconst 0, 1) := by decide +kernel
theorem dL_turnsUntilMiss_16 : decode cL_turnsUntilMiss 16 = .ok (.ireturn, 1) := by decide +kernel
theorem dL_leaderIn_0 : decode cL_leaderIn 0 = .ok (.aload_n 2, 1) := by decide +kernel
theorem dL_leaderIn_1 : decode cL_leaderIn 1 = .ok (.iconst 0, 1) := by decide +kernel
theorem dL_leaderIn_2 : decode cL_leaderIn 2 = .ok (.aload_n 0, 1) := by decide +kernel
theorem dL_leaderIn_3 : decode cL_leaderIn 3 = .ok (.iload_n 1, 1) := by decide +kernel
theorem dL_leaderIn_4 : decode cL_leaderIn 4 = .ok (.invokevirtual 70, 3) := by decide +kernel
theorem dL_leaderIn_7 : decode cL_leaderIn 7 = .ok (.i2l, 1) := by decide +kernel
theorem dL_leaderIn_8 : decode cL_leaderIn 8 = .ok (.lastore, 1) := by decide +kernel
theorem dL_leaderIn_9 : decode cL_leaderIn 9 = .ok (.goto 6, 3) := by decide +kernel
theorem dL_leaderIn_12 : decode cL_leaderIn 12 = .ok (.astore_n 3, 1) := by decide +kernel
theorem dL_leaderIn_13 : decode cL_leaderIn 13 = .ok (.iconst 1, 1) := by decide +kernel
theorem dL_leaderIn_14 : decode cL_leaderIn 14 = .ok (.ireturn, 1) := by decide +kernel
theorem dL_leaderIn_15 : decode cL_leaderIn 15 = .ok (.iconst 0, 1) := by decide +kernel
theorem dL_leaderIn_16 : decode cL_leaderIn 16 = .ok (.ireturn, 1) := by decide +kernel
theorem dL_bestRest_0 : decode cL_bestRest 0 = .ok (.aload_n 2, 1) := by decide +kernel
theorem dL_bestRest_1 : decode cL_bestRest 1 = .ok (.iconst 0, 1) := by decide +kernel
theorem dL_bestRest_2 : decode cL_bestRest 2 = .ok (.aload_n 0, 1) := by decide +kernel
theorem dL_bestRest_3 : decode cL_bestRest 3 = .ok (.iload_n 1, 1) := by decide +kernel
theorem dL_bestRest_4 : decode cL_bestRest 4 = .ok (.invokevirtual 73, 3) := by decide +kernel
theorem dL_bestRest_7 : decode cL_bestRest 7 = .ok (.i2l, 1) := by decide +kernel
theorem dL_bestRest_8 : decode cL_bestRest 8 = .ok (.lastore, 1) := by decide +kernel
theorem dL_bestRest_9 : decode cL_bestRest 9 = .ok (.goto 6, 3) := by decide +kernel
theorem dL_bestRest_12 : decode cL_bestRest 12 = .ok (.astore_n 3, 1) := by decide +kernel
theorem dL_bestRest_13 : decode cL_bestRest 13 = .ok (.iconst 1, 1) := by decide +kernel
theorem dL_bestRest_14 : decode cL_bestRest 14 = .ok (.ireturn, 1) := by decide +kernel
theorem dL_bestRest_15 : decode cL_bestRest 15 = .ok (.iconst 0, 1) := by decide +kernel
theorem dL_bestRest_16 : decode cL_bestRest 16 = .ok (.ireturn, 1) := by decide +kernel
theorem dL_swingWanted_0 : decode cL_swingWanted 0 = .ok (.aload_n 2, 1) := by decide +kernel
theorem dL_swingWanted_1 : decode cL_swingWanted 1 = .ok (.iconst 0, 1) := by decide +kernel
theorem dL_swingWanted_2 : decode cL_swingWanted 2 = .ok (.aload_n 0, 1) := by decide +kernel
theorem dL_swingWanted_3 : decode cL_swingWanted 3 = .ok (.iload_n 1, 1) := by decide +kernel
theorem dL_swingWanted_4 : decode cL_swingWanted 4 = .ok (.invokevirtual 76, 3) := by decide +kernel
theorem dL_swingWanted_7 : decode cL_swingWanted 7 = .ok (.i2l, 1) := by decide +kernel
theorem dL_swingWanted_8 : decode cL_swingWanted 8 = .ok (.lastore, 1) := by decide +kernel
theorem dL_swingWanted_9 : decode cL_swingWanted 9 = .ok (.goto 6, 3) := by decide +kernel
theorem dL_swingWanted_12 : decode cL_swingWanted 12 = .ok (.astore_n 3, 1) := by decide +kernel
theorem dL_swingWanted_13 : decode cL_swingWanted 13 = .ok (.iconst 1, 1) := by decide +kernel
theorem dL_swingWanted_14 : decode cL_swingWanted 14 = .ok (.ireturn, 1) := by decide +kernel
theorem dL_swingWanted_15 : decode cL_swingWanted 15 = .ok (.iconst 0, 1) := by decide +kernel
theorem dL_swingWanted_16 : decode cL_swingWanted 16 = .ok (.ireturn, 1) := by decide +kernel
end
section
theorem dL_law_0 : decode cL_law 0 = .ok (.new 8, 3) := by decide +kernel
theorem dL_law_3 : decode cL_law 3 = .ok (.dup, 1) := by decide +kernel
theorem dL_law_4 : decode cL_law 4 = .ok (.invokespecial 79, 3) := by decide +kernel
theorem dL_law_7 : decode cL_law 7 = .ok (.astore_n 1, 1) := by decide +kernel
theorem dL_law_8 : decode cL_law 8 = .ok (.new 80, 3) := by decide +kernel
theorem dL_law_11 : decode cL_law 11 = .ok (.dup, 1) := by decide +kernel
theorem dL_law_12 : decode cL_law 12 = .ok (.invokespecial 82, 3) := by decide +kernel
theorem dL_law_15 : decode cL_law 15 = .ok (.astore_n 2, 1) := by decide +kernel
theorem dL_law_16 : decode cL_law 16 = .ok (.iconst 1, 1) := by decide +kernel
theorem dL_law_17 : decode cL_law 17 = .ok (.newarray .long, 2) := by decide +kernel
theorem dL_law_19 : decode cL_law 19 = .ok (.astore_n 3, 1) := by decide +kernel
theorem dL_law_20 : decode cL_law 20 = .ok (.iconst 0, 1) := by decide +kernel
theorem dL_law_21 : decode cL_law 21 = .ok (.istore 4, 2) := by decide +kernel
theorem dL_law_23 : decode cL_law 23 = .ok (.iload 4, 2) := by decide +kernel
theorem dL_law_25 : decode cL_law 25 = .ok (.aload_n 0, 1) := by decide +kernel
theorem dL_law_26 : decode cL_law 26 = .ok (.arraylength, 1) := by decide +kernel
theorem dL_law_27 : decode cL_law 27 = .ok (.iconst 4, 1) := by decide +kernel
theorem dL_law_28 : decode cL_law 28 = .ok (.isub, 1) := by decide +kernel
theorem dL_law_29 : decode cL_law 29 = .ok (.if_icmp .gt 1425, 3) := by decide +kernel
theorem dL_law_32 : decode cL_law 32 = .ok (.aload_n 0, 1) := by decide +kernel
theorem dL_law_33 : decode cL_law 33 = .ok (.iload 4, 2) := by decide +kernel
theorem dL_law_35 : decode cL_law 35 = .ok (.iaload, 1) := by decide +kernel
theorem dL_law_36 : decode cL_law 36 = .ok (.bipush 31, 2) := by decide +kernel
theorem dL_law_38 : decode cL_law 38 = .ok (.iand, 1) := by decide +kernel
theorem dL_law_39 : decode cL_law 39 = .ok (.tableswitch 1409 0 26 #[121, 189, 269, 325, 381, 425, 438, 506, 562, 618, 674, 687, 743, 799, 855, 911, 967, 980, 993, 1049, 1117, 1173, 1229, 1242, 1298, 1354, 1395], 121) := by decide +kernel
theorem dL_law_160 : decode cL_law 160 = .ok (.aload_n 1, 1) := by decide +kernel
theorem dL_law_161 : decode cL_law 161 = .ok (.aload_n 0, 1) := by decide +kernel
theorem dL_law_162 : decode cL_law 162 = .ok (.iload 4, 2) := by decide +kernel
theorem dL_law_164 : decode cL_law 164 = .ok (.iconst 1, 1) := by decide +kernel
theorem dL_law_165 : decode cL_law 165 = .ok (.iadd, 1) := by decide +kernel
theorem dL_law_166 : decode cL_law 166 = .ok (.iaload, 1) := by decide +kernel
theorem dL_law_167 : decode cL_law 167 = .ok (.aload_n 0, 1) := by decide +kernel
theorem dL_law_168 : decode cL_law 168 = .ok (.iload 4, 2) := by decide +kernel
theorem dL_law_170 : decode cL_law 170 = .ok (.iconst 2, 1) := by decide +kernel
theorem dL_law_171 : decode cL_law 171 = .ok (.iadd, 1) := by decide +kernel
theorem dL_law_172 : decode cL_law 172 = .ok (.iaload, 1) := by decide +kernel
theorem dL_law_173 : decode cL_law 173 = .ok (.aload_n 3, 1) := by decide +kernel
theorem dL_law_174 : decode cL_law 174 = .ok (.invokestatic 83, 3) := by decide +kernel
theorem dL_law_177 : decode cL_law 177 = .ok (.istore 5, 2) := by decide +kernel
theorem dL_law_179 : decode cL_law 179 = .ok (.aload_n 2, 1) := by decide +kernel
theorem dL_law_180 : decode cL_law 180 = .ok (.aload_n 0, 1) := by decide +kernel
theorem dL_law_181 : decode cL_law 181 = .ok (.iload 4, 2) := by decide +kernel
theorem dL_law_183 : decode cL_law 183 = .ok (.iconst 1, 1) := by decide +kernel
theorem dL_law_184 : decode cL_law 184 = .ok (.iadd, 1) := by decide +kernel
theorem dL_law_185 : decode cL_law 185 = .ok (.iaload, 1) := by decide +kernel
theorem dL_law_186 : decode cL_law 186 = .ok (.aload_n 0, 1) := by decide +kernel
theorem dL_law_187 : decode cL_law 187 = .ok (.iload 4, 2) := by decide +kernel
theorem dL_law_189 : decode cL_law 189 = .ok (.iconst 2, 1) := by decide +kernel
theorem dL_law_190 : decode cL_law 190 = .ok (.iadd, 1) := by decide +kernel
theorem dL_law_191 : decode cL_law 191 = .ok (.iaload, 1) := by decide +kernel
theorem dL_law_192 : decode cL_law 192 = .ok (.invokevirtual 88, 3) := by decide +kernel
theorem dL_law_195 : decode cL_law 195 = .ok (.istore 6, 2) := by decide +kernel
theorem dL_law_197 : decode cL_law 197 = .ok (.aload_n 2, 1) := by decide +kernel
theorem dL_law_198 : decode cL_law 198 = .ok (.invokevirtual 89, 3) := by decide +kernel
theorem dL_law_201 : decode cL_law 201 = .ok (.iload 5, 2) := by decide +kernel
theorem dL_law_203 : decode cL_law 203 = .ok (.if_icmp .eq 5, 3) := by decide +kernel
theorem dL_law_206 : decode cL_law 206 = .ok (.iconst 0, 1) := by decide +kernel
theorem dL_law_207 : decode cL_law 207 = .ok (.ireturn, 1) := by decide +kernel
theorem dL_law_208 : decode cL_law 208 = .ok (.iload 5, 2) := by decide +kernel
theorem dL_law_210 : decode cL_law 210 = .ok (.ifCond .ne 15, 3) := by decide +kernel
theorem dL_law_213 : decode cL_law 213 = .ok (.aload_n 3, 1) := by decide +kernel
theorem dL_law_214 : decode cL_law 214 = .ok (.iconst 0, 1) := by decide +kernel
theorem dL_law_215 : decode cL_law 215 = .ok (.laload, 1) := by decide +kernel
theorem dL_law_216 : decode cL_law 216 = .ok (.iload 6, 2) := by decide +kernel
theorem dL_law_218 : decode cL_law 218 = .ok (.i2l, 1) := by decide +kernel
theorem dL_law_219 : decode cL_law 219 = .ok (.lcmp, 1) := by decide +kernel
theorem dL_law_220 : decode cL_law 220 = .ok (.ifCond .eq 5, 3) := by decide +kernel
theorem dL_law_223 : decode cL_law 223 = .ok (.iconst 0, 1) := by decide +kernel
theorem dL_law_224 : decode cL_law 224 = .ok (.ireturn, 1) := by decide +kernel
theorem dL_law_225 : decode cL_law 225 = .ok (.goto 1223, 3) := by decide +kernel
theorem dL_law_228 : decode cL_law 228 = .ok (.aload_n 1, 1) := by decide +kernel
theorem dL_law_229 : decode cL_law 229 = .ok (.aload_n 0, 1) := by decide +kernel
theorem dL_law_230 : decode cL_law 230 = .ok (.iload 4, 2) := by decide +kernel
theorem dL_law_232 : decode cL_law 232 = .ok (.iconst 1, 1) := by decide +kernel
theorem dL_law_233 : decode cL_law 233 = .ok (.iadd, 1) := by decide +kernel
theorem dL_law_234 : decode cL_law 234 = .ok (.iaload, 1) := by decide +kernel
theorem dL_law_235 : decode cL_law 235 = .ok (.aload_n 0, 1) := by decide +kernel
theorem dL_law_236 : decode cL_law 236 = .ok (.iload 4, 2) := by decide +kernel
theorem dL_law_238 : decode cL_law 238 = .ok (.iconst 2, 1) := by decide +kernel
theorem dL_law_239 : decode cL_law 239 = .ok (.iadd, 1) := by decide +kernel
theorem dL_law_240 : decode cL_law 240 = .ok (.iaload, 1) := by decide +kernel
theorem dL_law_241 : decode cL_law 241 = .ok (.aload_n 0, 1) := by decide +kernel
theorem dL_law_242 : decode cL_law 242 = .ok (.iload 4, 2) := by decide +kernel
theorem dL_law_244 : decode cL_law 244 = .ok (.iconst 3, 1) := by decide +kernel
theorem dL_law_245 : decode cL_law 245 = .ok (.iadd, 1) := by decide +kernel
theorem dL_law_246 : decode cL_law 246 = .ok (.iaload, 1) := by decide +kernel
theorem dL_law_247 : decode cL_law 247 = .ok (.aload_n 3, 1) := by decide +kernel
theorem dL_law_248 : decode cL_law 248 = .ok (.invokestatic 92, 3) := by decide +kernel
theorem dL_law_251 : decode cL_law 251 = .ok (.istore 5, 2) := by decide +kernel
theorem dL_law_253 : decode cL_law 253 = .ok (.aload_n 2, 1) := by decide +kernel
theorem dL_law_254 : decode cL_law 254 = .ok (.aload_n 0, 1) := by decide +kernel
theorem dL_law_255 : decode cL_law 255 = .ok (.iload 4, 2) := by decide +kernel
theorem dL_law_257 : decode cL_law 257 = .ok (.iconst 1, 1) := by decide +kernel
theorem dL_law_258 : decode cL_law 258 = .ok (.iadd, 1) := by decide +kernel
theorem dL_law_259 : decode cL_law 259 = .ok (.iaload, 1) := by decide +kernel
theorem dL_law_260 : decode cL_law 260 = .ok (.aload_n 0, 1) := by decide +kernel
theorem dL_law_261 : decode cL_law 261 = .ok (.iload 4, 2) := by decide +kernel
theorem dL_law_263 : decode cL_law 263 = .ok (.iconst 2, 1) := by decide +kernel
theorem dL_law_264 : decode cL_law 264 = .ok (.iadd, 1) := by decide +kernel
theorem dL_law_265 : decode cL_law 265 = .ok (.iaload, 1) := by decide +kernel
theorem dL_law_266 : decode cL_law 266 = .ok (.aload_n 0, 1) := by decide +kernel
theorem dL_law_267 : decode cL_law 267 = .ok (.iload 4, 2) := by decide +kernel
theorem dL_law_269 : decode cL_law 269 = .ok (.iconst 3, 1) := by decide +kernel
theorem dL_law_270 : decode cL_law 270 = .ok (.iadd, 1) := by decide +kernel
theorem dL_law_271 : decode cL_law 271 = .ok (.iaload, 1) := by decide +kernel
theorem dL_law_272 : decode cL_law 272 = .ok (.invokevirtual 95, 3) := by decide +kernel
theorem dL_law_275 : decode cL_law 275 = .ok (.istore 6, 2) := by decide +kernel
theorem dL_law_277 : decode cL_law 277 = .ok (.aload_n 2, 1) := by decide +kernel
theorem dL_law_278 : decode cL_law 278 = .ok (.invokevirtual 89, 3) := by decide +kernel
theorem dL_law_281 : decode cL_law 281 = .ok (.iload 5, 2) := by decide +kernel
theorem dL_law_283 : decode cL_law 283 = .ok (.if_icmp .eq 5, 3) := by decide +kernel
theorem dL_law_286 : decode cL_law 286 = .ok (.iconst 0, 1) := by decide +kernel
theorem dL_law_287 : decode cL_law 287 = .ok (.ireturn, 1) := by decide +kernel
theorem dL_law_288 : decode cL_law 288 = .ok (.iload 5, 2) := by decide +kernel
theorem dL_law_290 : decode cL_law 290 = .ok (.ifCond .ne 15, 3) := by decide +kernel
theorem dL_law_293 : decode cL_law 293 = .ok (.aload_n 3, 1) := by decide +kernel
theorem dL_law_294 : decode cL_law 294 = .ok (.iconst 0, 1) := by decide +kernel
theorem dL_law_295 : decode cL_law 295 = .ok (.laload, 1) := by decide +kernel
theorem dL_law_296 : decode cL_law 296 = .ok (.iload 6, 2) := by decide +kernel
theorem dL_law_298 : decode cL_law 298 = .ok (.i2l, 1) := by decide +kernel
theorem dL_law_299 : decode cL_law 299 = .ok (.lcmp, 1) := by decide +kernel
theorem dL_law_300 : decode cL_law 300 = .ok (.ifCond .eq 5, 3) := by decide +kernel
theorem dL_law_303 : decode cL_law 303 = .ok (.iconst 0, 1) := by decide +kernel
theorem dL_law_304 : decode cL_law 304 = .ok (.ireturn, 1) := by decide +kernel
theorem dL_law_305 : decode cL_law 305 = .ok (.goto 1143, 3) := by decide +kernel
theorem dL_law_308 : decode cL_law 308 = .ok (.aload_n 1, 1) := by decide +kernel
theorem dL_law_309 : decode cL_law 309 = .ok (.aload_n 0, 1) := by decide +kernel
theorem dL_law_310 : decode cL_law 310 = .ok (.iload 4, 2) := by decide +kernel
theorem dL_law_312 : decode cL_law 312 = .ok (.iconst 1, 1) := by decide +kernel
theorem dL_law_313 : decode cL_law 313 = .ok (.iadd, 1) := by decide +kernel
theorem dL_law_314 : decode cL_law 314 = .ok (.iaload, 1) := by decide +kernel
theorem dL_law_315 : decode cL_law 315 = .ok (.aload_n 3, 1) := by decide +kernel
theorem dL_law_316 : decode cL_law 316 = .ok (.invokestatic 96, 3) := by decide +kernel
theorem dL_law_319 : decode cL_law 319 = .ok (.istore 5, 2) := by decide +kernel
theorem dL_law_321 : decode cL_law 321 = .ok (.aload_n 2, 1) := by decide +kernel
theorem dL_law_322 : decode cL_law 322 = .ok (.aload_n 0, 1) := by decide +kernel
theorem dL_law_323 : decode cL_law 323 = .ok (.iload 4, 2) := by decide +kernel
theorem dL_law_325 : decode cL_law 325 = .ok (.iconst 1, 1) := by decide +kernel
theorem dL_law_326 : decode cL_law 326 = .ok (.iadd, 1) := by decide +kernel
theorem dL_law_327 : decode cL_law 327 = .ok (.iaload, 1) := by decide +kernel
theorem dL_law_328 : decode cL_law 328 = .ok (.invokevirtual 99, 3) := by decide +kernel
theorem dL_law_331 : decode cL_law 331 = .ok (.istore 6, 2) := by decide +kernel
theorem dL_law_333 : decode cL_law 333 = .ok (.aload_n 2, 1) := by decide +kernel
theorem dL_law_334 : decode cL_law 334 = .ok (.invokevirtual 89, 3) := by decide +kernel
theorem dL_law_337 : decode cL_law 337 = .ok (.iload 5, 2) := by decide +kernel
theorem dL_law_339 : decode cL_law 339 = .ok (.if_icmp .eq 5, 3) := by decide +kernel
theorem dL_law_342 : decode cL_law 342 = .ok (.iconst 0, 1) := by decide +kernel
theorem dL_law_343 : decode cL_law 343 = .ok (.ireturn, 1) := by decide +kernel
theorem dL_law_344 : decode cL_law 344 = .ok (.iload 5, 2) := by decide +kernel
theorem dL_law_346 : decode cL_law 346 = .ok (.ifCond .ne 15, 3) := by decide +kernel
theorem dL_law_349 : decode cL_law 349 = .ok (.aload_n 3, 1) := by decide +kernel
theorem dL_law_350 : decode cL_law 350 = .ok (.iconst 0, 1) := by decide +kernel
theorem dL_law_351 : decode cL_law 351 = .ok (.laload, 1) := by decide +kernel
theorem dL_law_352 : decode cL_law 352 = .ok (.iload 6, 2) := by decide +kernel
theorem dL_law_354 : decode cL_law 354 = .ok (.i2l, 1) := by decide +kernel
theorem dL_law_355 : decode cL_law 355 = .ok (.lcmp, 1) := by decide +kernel
theorem dL_law_356 : decode cL_law 356 = .ok (.ifCond .eq 5, 3) := by decide +kernel
theorem dL_law_359 : decode cL_law 359 = .ok (.iconst 0, 1) := by decide +kernel
theorem dL_law_360 : decode cL_law 360 = .ok (.ireturn, 1) := by decide +kernel
theorem dL_law_361 : decode cL_law 361 = .ok (.goto 1087, 3) := by decide +kernel
theorem dL_law_364 : decode cL_law 364 = .ok (.aload_n 1, 1) := by decide +kernel
theorem dL_law_365 : decode cL_law 365 = .ok (.aload_n 0, 1) := by decide +kernel
theorem dL_law_366 : decode cL_law 366 = .ok (.iload 4, 2) := by decide +kernel
theorem dL_law_368 : decode cL_law 368 = .ok (.iconst 1, 1) := by decide +kernel
theorem dL_law_369 : decode cL_law 369 = .ok (.iadd, 1) := by decide +kernel
theorem dL_law_370 : decode cL_law 370 = .ok (.iaload, 1) := by decide +kernel
theorem dL_law_371 : decode cL_law 371 = .ok (.aload_n 3, 1) := by decide +kernel
theorem dL_law_372 : decode cL_law 372 = .ok (.invokestatic 100, 3) := by decide +kernel
theorem dL_law_375 : decode cL_law 375 = .ok (.istore 5, 2) := by decide +kernel
theorem dL_law_377 : decode cL_law 377 = .ok (.aload_n 2, 1) := by decide +kernel
theorem dL_law_378 : decode cL_law 378 = .ok (.aload_n 0, 1) := by decide +kernel
theorem dL_law_379 : decode cL_law 379 = .ok (.iload 4, 2) := by decide +kernel
theorem dL_law_381 : decode cL_law 381 = .ok (.iconst 1, 1) := by decide +kernel
theorem dL_law_382 : decode cL_law 382 = .ok (.iadd, 1) := by decide +kernel
theorem dL_law_383 : decode cL_law 383 = .ok (.iaload, 1) := by decide +kernel
theorem dL_law_384 : decode cL_law 384 = .ok (.invokevirtual 102, 3) := by decide +kernel
theorem dL_law_387 : decode cL_law 387 = .ok (.istore 6, 2) := by decide +kernel
theorem dL_law_389 : decode cL_law 389 = .ok (.aload_n 2, 1) := by decide +kernel
theorem dL_law_390 : decode cL_law 390 = .ok (.invokevirtual 89, 3) := by decide +kernel
theorem dL_law_393 : decode cL_law 393 = .ok (.iload 5, 2) := by decide +kernel
theorem dL_law_395 : decode cL_law 395 = .ok (.if_icmp .eq 5, 3) := by decide +kernel
theorem dL_law_398 : decode cL_law 398 = .ok (.iconst 0, 1) := by decide +kernel
theorem dL_law_399 : decode cL_law 399 = .ok (.ireturn, 1) := by decide +kernel
theorem dL_law_400 : decode cL_law 400 = .ok (.iload 5, 2) := by decide +kernel
theorem dL_law_402 : decode cL_law 402 = .ok (.ifCond .ne 15, 3) := by decide +kernel
theorem dL_law_405 : decode cL_law 405 = .ok (.aload_n 3, 1) := by decide +kernel
theorem dL_law_406 : decode cL_law 406 = .ok (.iconst 0, 1) := by decide +kernel
theorem dL_law_407 : decode cL_law 407 = .ok (.laload, 1) := by decide +kernel
theorem dL_law_408 : decode cL_law 408 = .ok (.iload 6, 2) := by decide +kernel
theorem dL_law_410 : decode cL_law 410 = .ok (.i2l, 1) := by decide +kernel
theorem dL_law_411 : decode cL_law 411 = .ok (.lcmp, 1) := by decide +kernel
theorem dL_law_412 : decode cL_law 412 = .ok (.ifCond .eq 5, 3) := by decide +kernel
theorem dL_law_415 : decode cL_law 415 = .ok (.iconst 0, 1) := by decide +kernel
theorem dL_law_416 : decode cL_law 416 = .ok (.ireturn, 1) := by decide +kernel
theorem dL_law_417 : decode cL_law 417 = .ok (.goto 1031, 3) := by decide +kernel
theorem dL_law_420 : decode cL_law 420 = .ok (.aload_n 1, 1) := by decide +kernel
theorem dL_law_421 : decode cL_law 421 = .ok (.aload_n 3, 1) := by decide +kernel
theorem dL_law_422 : decode cL_law 422 = .ok (.invokestatic 103, 3) := by decide +kernel
theorem dL_law_425 : decode cL_law 425 = .ok (.istore 5, 2) := by decide +kernel
theorem dL_law_427 : decode cL_law 427 = .ok (.aload_n 2, 1) := by decide +kernel
theorem dL_law_428 : decode cL_law 428 = .ok (.invokevirtual 106, 3) := by decide +kernel
theorem dL_law_431 : decode cL_law 431 = .ok (.istore 6, 2) := by decide +kernel
theorem dL_law_433 : decode cL_law 433 = .ok (.aload_n 2, 1) := by decide +kernel
theorem dL_law_434 : decode cL_law 434 = .ok (.invokevirtual 89, 3) := by decide +kernel
theorem dL_law_437 : decode cL_law 437 = .ok (.iload 5, 2) := by decide +kernel
theorem dL_law_439 : decode cL_law 439 = .ok (.if_icmp .eq 5, 3) := by decide +kernel
theorem dL_law_442 : decode cL_law 442 = .ok (.iconst 0, 1) := by decide +kernel
theorem dL_law_443 : decode cL_law 443 = .ok (.ireturn, 1) := by decide +kernel
theorem dL_law_444 : decode cL_law 444 = .ok (.iload 5, 2) := by decide +kernel
theorem dL_law_446 : decode cL_law 446 = .ok (.ifCond .ne 15, 3) := by decide +kernel
theorem dL_law_449 : decode cL_law 449 = .ok (.aload_n 3, 1) := by decide +kernel
theorem dL_law_450 : decode cL_law 450 = .ok (.iconst 0, 1) := by decide +kernel
theorem dL_law_451 : decode cL_law 451 = .ok (.laload, 1) := by decide +kernel
theorem dL_law_452 : decode cL_law 452 = .ok (.iload 6, 2) := by decide +kernel
theorem dL_law_454 : decode cL_law 454 = .ok (.i2l, 1) := by decide +kernel
theorem dL_law_455 : decode cL_law 455 = .ok (.lcmp, 1) := by decide +kernel
theorem dL_law_456 : decode cL_law 456 = .ok (.ifCond .eq 5, 3) := by decide +kernel
theorem dL_law_459 : decode cL_law 459 = .ok (.iconst 0, 1) := by decide +kernel
theorem dL_law_460 : decode cL_law 460 = .ok (.ireturn, 1) := by decide +kernel
theorem dL_law_461 : decode cL_law 461 = .ok (.goto 987, 3) := by decide +kernel
theorem dL_law_464 : decode cL_law 464 = .ok (.aload_n 1, 1) := by decide +kernel
theorem dL_law_465 : decode cL_law 465 = .ok (.invokevirtual 107, 3) := by decide +kernel
theorem dL_law_468 : decode cL_law 468 = .ok (.aload_n 2, 1) := by decide +kernel
theorem dL_law_469 : decode cL_law 469 = .ok (.invokevirtual 110, 3) := by decide +kernel
theorem dL_law_472 : decode cL_law 472 = .ok (.if_icmp .eq 976, 3) := by decide +kernel
theorem dL_law_475 : decode cL_law 475 = .ok (.iconst 0, 1) := by decide +kernel
theorem dL_law_476 : decode cL_law 476 = .ok (.ireturn, 1) := by decide +kernel
theorem dL_law_477 : decode cL_law 477 = .ok (.aload_n 1, 1) := by decide +kernel
theorem dL_law_478 : decode cL_law 478 = .ok (.aload_n 0, 1) := by decide +kernel
theorem dL_law_479 : decode cL_law 479 = .ok (.iload 4, 2) := by decide +kernel
theorem dL_law_481 : decode cL_law 481 = .ok (.iconst 1, 1) := by decide +kernel
theorem dL_law_482 : decode cL_law 482 = .ok (.iadd, 1) := by decide +kernel
theorem dL_law_483 : decode cL_law 483 = .ok (.iaload, 1) := by decide +kernel
theorem dL_law_484 : decode cL_law 484 = .ok (.aload_n 0, 1) := by decide +kernel
theorem dL_law_485 : decode cL_law 485 = .ok (.iload 4, 2) := by decide +kernel
theorem dL_law_487 : decode cL_law 487 = .ok (.iconst 2, 1) := by decide +kernel
theorem dL_law_488 : decode cL_law 488 = .ok (.iadd, 1) := by decide +kernel
theorem dL_law_489 : decode cL_law 489 = .ok (.iaload, 1) := by decide +kernel
theorem dL_law_490 : decode cL_law 490 = .ok (.aload_n 3, 1) := by decide +kernel
theorem dL_law_491 : decode cL_law 491 = .ok (.invokestatic 111, 3) := by decide +kernel
theorem dL_law_494 : decode cL_law 494 = .ok (.istore 5, 2) := by decide +kernel
theorem dL_law_496 : decode cL_law 496 = .ok (.aload_n 2, 1) := by decide +kernel
theorem dL_law_497 : decode cL_law 497 = .ok (.aload_n 0, 1) := by decide +kernel
theorem dL_law_498 : decode cL_law 498 = .ok (.iload 4, 2) := by decide +kernel
theorem dL_law_500 : decode cL_law 500 = .ok (.iconst 1, 1) := by decide +kernel
theorem dL_law_501 : decode cL_law 501 = .ok (.iadd, 1) := by decide +kernel
theorem dL_law_502 : decode cL_law 502 = .ok (.iaload, 1) := by decide +kernel
theorem dL_law_503 : decode cL_law 503 = .ok (.aload_n 0, 1) := by decide +kernel
theorem dL_law_504 : decode cL_law 504 = .ok (.iload 4, 2) := by decide +kernel
theorem dL_law_506 : decode cL_law 506 = .ok (.iconst 2, 1) := by decide +kernel
theorem dL_law_507 : decode cL_law 507 = .ok (.iadd, 1) := by decide +kernel
theorem dL_law_508 : decode cL_law 508 = .ok (.iaload, 1) := by decide +kernel
theorem dL_law_509 : decode cL_law 509 = .ok (.invokevirtual 113, 3) := by decide +kernel
theorem dL_law_512 : decode cL_law 512 = .ok (.istore 6, 2) := by decide +kernel
theorem dL_law_514 : decode cL_law 514 = .ok (.aload_n 2, 1) := by decide +kernel
theorem dL_law_515 : decode cL_law 515 = .ok (.invokevirtual 89, 3) := by decide +kernel
theorem dL_law_518 : decode cL_law 518 = .ok (.iload 5, 2) := by decide +kernel
theorem dL_law_520 : decode cL_law 520 = .ok (.if_icmp .eq 5, 3) := by decide +kernel
theorem dL_law_523 : decode cL_law 523 = .ok (.iconst 0, 1) := by decide +kernel
theorem dL_law_524 : decode cL_law 524 = .ok (.ireturn, 1) := by decide +kernel
theorem dL_law_525 : decode cL_law 525 = .ok (.iload 5, 2) := by decide +kernel
theorem dL_law_527 : decode cL_law 527 = .ok (.ifCond .ne 15, 3) := by decide +kernel
theorem dL_law_530 : decode cL_law 530 = .ok (.aload_n 3, 1) := by decide +kernel
theorem dL_law_531 : decode cL_law 531 = .ok (.iconst 0, 1) := by decide +kernel
theorem dL_law_532 : decode cL_law 532 = .ok (.laload, 1) := by decide +kernel
theorem dL_law_533 : decode cL_law 533 = .ok (.iload 6, 2) := by decide +kernel
theorem dL_law_535 : decode cL_law 535 = .ok (.i2l, 1) := by decide +kernel
theorem dL_law_536 : decode cL_law 536 = .ok (.lcmp, 1) := by decide +kernel
theorem dL_law_537 : decode cL_law 537 = .ok (.ifCond .eq 5, 3) := by decide +kernel
theorem dL_law_540 : decode cL_law 540 = .ok (.iconst 0, 1) := by decide +kernel
theorem dL_law_541 : decode cL_law 541 = .ok (.ireturn, 1) := by decide +kernel
theorem dL_law_542 : decode cL_law 542 = .ok (.goto 906, 3) := by decide +kernel
theorem dL_law_545 : decode cL_law 545 = .ok (.aload_n 1, 1) := by decide +kernel
theorem dL_law_546 : decode cL_law 546 = .ok (.aload_n 0, 1) := by decide +kernel
theorem dL_law_547 : decode cL_law 547 = .ok (.iload 4, 2) := by decide +kernel
theorem dL_law_549 : decode cL_law 549 = .ok (.iconst 1, 1) := by decide +kernel
theorem dL_law_550 : decode cL_law 550 = .ok (.iadd, 1) := by decide +kernel
theorem dL_law_551 : decode cL_law 551 = .ok (.iaload, 1) := by decide +kernel
theorem dL_law_552 : decode cL_law 552 = .ok (.aload_n 3, 1) := by decide +kernel
theorem dL_law_553 : decode cL_law 553 = .ok (.invokestatic 114, 3) := by decide +kernel
theorem dL_law_556 : decode cL_law 556 = .ok (.istore 5, 2) := by decide +kernel
theorem dL_law_558 : decode cL_law 558 = .ok (.aload_n 2, 1) := by decide +kernel
theorem dL_law_559 : decode cL_law 559 = .ok (.aload_n 0, 1) := by decide +kernel
theorem dL_law_560 : decode cL_law 560 = .ok (.iload 4, 2) := by decide +kernel
theorem dL_law_562 : decode cL_law 562 = .ok (.iconst 1, 1) := by decide +kernel
theorem dL_law_563 : decode cL_law 563 = .ok (.iadd, 1) := by decide +kernel
theorem dL_law_564 : decode cL_law 564 = .ok (.iaload, 1) := by decide +kernel
theorem dL_law_565 : decode cL_law 565 = .ok (.invokevirtual 116, 3) := by decide +kernel
theorem dL_law_568 : decode cL_law 568 = .ok (.istore 6, 2) := by decide +kernel
theorem dL_law_570 : decode cL_law 570 = .ok (.aload_n 2, 1) := by decide +kernel
theorem dL_law_571 : decode cL_law 571 = .ok (.invokevirtual 89, 3) := by decide +kernel
theorem dL_law_574 : decode cL_law 574 = .ok (.iload 5, 2) := by decide +kernel
theorem dL_law_576 : decode cL_law 576 = .ok (.if_icmp .eq 5, 3) := by decide +kernel
theorem dL_law_579 : decode cL_law 579 = .ok (.iconst 0, 1) := by decide +kernel
theorem dL_law_580 : decode cL_law 580 = .ok (.ireturn, 1) := by decide +kernel
theorem dL_law_581 : decode cL_law 581 = .ok (.iload 5, 2) := by decide +kernel
theorem dL_law_583 : decode cL_law 583 = .ok (.ifCond .ne 15, 3) := by decide +kernel
theorem dL_law_586 : decode cL_law 586 = .ok (.aload_n 3, 1) := by decide +kernel
theorem dL_law_587 : decode cL_law 587 = .ok (.iconst 0, 1) := by decide +kernel
theorem dL_law_588 : decode cL_law 588 = .ok (.laload, 1) := by decide +kernel
theorem dL_law_589 : decode cL_law 589 = .ok (.iload 6, 2) := by decide +kernel
theorem dL_law_591 : decode cL_law 591 = .ok (.i2l, 1) := by decide +kernel
theorem dL_law_592 : decode cL_law 592 = .ok (.lcmp, 1) := by decide +kernel
theorem dL_law_593 : decode cL_law 593 = .ok (.ifCond .eq 5, 3) := by decide +kernel
theorem dL_law_596 : decode cL_law 596 = .ok (.iconst 0, 1) := by decide +kernel
theorem dL_law_597 : decode cL_law 597 = .ok (.ireturn, 1) := by decide +kernel
theorem dL_law_598 : decode cL_law 598 = .ok (.goto 850, 3) := by decide +kernel
theorem dL_law_601 : decode cL_law 601 = .ok (.aload_n 1, 1) := by decide +kernel
theorem dL_law_602 : decode cL_law 602 = .ok (.aload_n 0, 1) := by decide +kernel
theorem dL_law_603 : decode cL_law 603 = .ok (.iload 4, 2) := by decide +kernel
theorem dL_law_605 : decode cL_law 605 = .ok (.iconst 1, 1) := by decide +kernel
theorem dL_law_606 : decode cL_law 606 = .ok (.iadd, 1) := by decide +kernel
theorem dL_law_607 : decode cL_law 607 = .ok (.iaload, 1) := by decide +kernel
theorem dL_law_608 : decode cL_law 608 = .ok (.aload_n 3, 1) := by decide +kernel
theorem dL_law_609 : decode cL_law 609 = .ok (.invokestatic 117, 3) := by decide +kernel
theorem dL_law_612 : decode cL_law 612 = .ok (.istore 5, 2) := by decide +kernel
theorem dL_law_614 : decode cL_law 614 = .ok (.aload_n 2, 1) := by decide +kernel
theorem dL_law_615 : decode cL_law 615 = .ok (.aload_n 0, 1) := by decide +kernel
theorem dL_law_616 : decode cL_law 616 = .ok (.iload 4, 2) := by decide +kernel
theorem dL_law_618 : decode cL_law 618 = .ok (.iconst 1, 1) := by decide +kernel
theorem dL_law_619 : decode cL_law 619 = .ok (.iadd, 1) := by decide +kernel
theorem dL_law_620 : decode cL_law 620 = .ok (.iaload, 1) := by decide +kernel
theorem dL_law_621 : decode cL_law 621 = .ok (.invokevirtual 119, 3) := by decide +kernel
theorem dL_law_624 : decode cL_law 624 = .ok (.istore 6, 2) := by decide +kernel
theorem dL_law_626 : decode cL_law 626 = .ok (.aload_n 2, 1) := by decide +kernel
theorem dL_law_627 : decode cL_law 627 = .ok (.invokevirtual 89, 3) := by decide +kernel
theorem dL_law_630 : decode cL_law 630 = .ok (.iload 5, 2) := by decide +kernel
theorem dL_law_632 : decode cL_law 632 = .ok (.if_icmp .eq 5, 3) := by decide +kernel
theorem dL_law_635 : decode cL_law 635 = .ok (.iconst 0, 1) := by decide +kernel
theorem dL_law_636 : decode cL_law 636 = .ok (.ireturn, 1) := by decide +kernel
theorem dL_law_637 : decode cL_law 637 = .ok (.iload 5, 2) := by decide +kernel
theorem dL_law_639 : decode cL_law 639 = .ok (.ifCond .ne 15, 3) := by decide +kernel
theorem dL_law_642 : decode cL_law 642 = .ok (.aload_n 3, 1) := by decide +kernel
theorem dL_law_643 : decode cL_law 643 = .ok (.iconst 0, 1) := by decide +kernel
theorem dL_law_644 : decode cL_law 644 = .ok (.laload, 1) := by decide +kernel
theorem dL_law_645 : decode cL_law 645 = .ok (.iload 6, 2) := by decide +kernel
theorem dL_law_647 : decode cL_law 647 = .ok (.i2l, 1) := by decide +kernel
theorem dL_law_648 : decode cL_law 648 = .ok (.lcmp, 1) := by decide +kernel
theorem dL_law_649 : decode cL_law 649 = .ok (.ifCond .eq 5, 3) := by decide +kernel
theorem dL_law_652 : decode cL_law 652 = .ok (.iconst 0, 1) := by decide +kernel
theorem dL_law_653 : decode cL_law 653 = .ok (.ireturn, 1) := by decide +kernel
theorem dL_law_654 : decode cL_law 654 = .ok (.goto 794, 3) := by decide +kernel
theorem dL_law_657 : decode cL_law 657 = .ok (.aload_n 1, 1) := by decide +kernel
theorem dL_law_658 : decode cL_law 658 = .ok (.aload_n 0, 1) := by decide +kernel
theorem dL_law_659 : decode cL_law 659 = .ok (.iload 4, 2) := by decide +kernel
theorem dL_law_661 : decode cL_law 661 = .ok (.iconst 1, 1) := by decide +kernel
theorem dL_law_662 : decode cL_law 662 = .ok (.iadd, 1) := by decide +kernel
theorem dL_law_663 : decode cL_law 663 = .ok (.iaload, 1) := by decide +kernel
theorem dL_law_664 : decode cL_law 664 = .ok (.aload_n 3, 1) := by decide +kernel
theorem dL_law_665 : decode cL_law 665 = .ok (.invokestatic 120, 3) := by decide +kernel
theorem dL_law_668 : decode cL_law 668 = .ok (.istore 5, 2) := by decide +kernel
theorem dL_law_670 : decode cL_law 670 = .ok (.aload_n 2, 1) := by decide +kernel
theorem dL_law_671 : decode cL_law 671 = .ok (.aload_n 0, 1) := by decide +kernel
theorem dL_law_672 : decode cL_law 672 = .ok (.iload 4, 2) := by decide +kernel
theorem dL_law_674 : decode cL_law 674 = .ok (.iconst 1, 1) := by decide +kernel
theorem dL_law_675 : decode cL_law 675 = .ok (.iadd, 1) := by decide +kernel
theorem dL_law_676 : decode cL_law 676 = .ok (.iaload, 1) := by decide +kernel
theorem dL_law_677 : decode cL_law 677 = .ok (.invokevirtual 122, 3) := by decide +kernel
theorem dL_law_680 : decode cL_law 680 = .ok (.istore 6, 2) := by decide +kernel
theorem dL_law_682 : decode cL_law 682 = .ok (.aload_n 2, 1) := by decide +kernel
theorem dL_law_683 : decode cL_law 683 = .ok (.invokevirtual 89, 3) := by decide +kernel
theorem dL_law_686 : decode cL_law 686 = .ok (.iload 5, 2) := by decide +kernel
theorem dL_law_688 : decode cL_law 688 = .ok (.if_icmp .eq 5, 3) := by decide +kernel
theorem dL_law_691 : decode cL_law 691 = .ok (.iconst 0, 1) := by decide +kernel
theorem dL_law_692 : decode cL_law 692 = .ok (.ireturn, 1) := by decide +kernel
theorem dL_law_693 : decode cL_law 693 = .ok (.iload 5, 2) := by decide +kernel
theorem dL_law_695 : decode cL_law 695 = .ok (.ifCond .ne 15, 3) := by decide +kernel
theorem dL_law_698 : decode cL_law 698 = .ok (.aload_n 3, 1) := by decide +kernel
theorem dL_law_699 : decode cL_law 699 = .ok (.iconst 0, 1) := by decide +kernel
theorem dL_law_700 : decode cL_law 700 = .ok (.laload, 1) := by decide +kernel
theorem dL_law_701 : decode cL_law 701 = .ok (.iload 6, 2) := by decide +kernel
theorem dL_law_703 : decode cL_law 703 = .ok (.i2l, 1) := by decide +kernel
theorem dL_law_704 : decode cL_law 704 = .ok (.lcmp, 1) := by decide +kernel
theorem dL_law_705 : decode cL_law 705 = .ok (.ifCond .eq 5, 3) := by decide +kernel
theorem dL_law_708 : decode cL_law 708 = .ok (.iconst 0, 1) := by decide +kernel
theorem dL_law_709 : decode cL_law 709 = .ok (.ireturn, 1) := by decide +kernel
theorem dL_law_710 : decode cL_law 710 = .ok (.goto 738, 3) := by decide +kernel
theorem dL_law_713 : decode cL_law 713 = .ok (.aload_n 1, 1) := by decide +kernel
theorem dL_law_714 : decode cL_law 714 = .ok (.invokevirtual 123, 3) := by decide +kernel
theorem dL_law_717 : decode cL_law 717 = .ok (.aload_n 2, 1) := by decide +kernel
theorem dL_law_718 : decode cL_law 718 = .ok (.invokevirtual 126, 3) := by decide +kernel
theorem dL_law_721 : decode cL_law 721 = .ok (.if_icmp .eq 727, 3) := by decide +kernel
theorem dL_law_724 : decode cL_law 724 = .ok (.iconst 0, 1) := by decide +kernel
theorem dL_law_725 : decode cL_law 725 = .ok (.ireturn, 1) := by decide +kernel
theorem dL_law_726 : decode cL_law 726 = .ok (.aload_n 1, 1) := by decide +kernel
theorem dL_law_727 : decode cL_law 727 = .ok (.aload_n 0, 1) := by decide +kernel
theorem dL_law_728 : decode cL_law 728 = .ok (.iload 4, 2) := by decide +kernel
theorem dL_law_730 : decode cL_law 730 = .ok (.iconst 1, 1) := by decide +kernel
theorem dL_law_731 : decode cL_law 731 = .ok (.iadd, 1) := by decide +kernel
theorem dL_law_732 : decode cL_law 732 = .ok (.iaload, 1) := by decide +kernel
theorem dL_law_733 : decode cL_law 733 = .ok (.aload_n 3, 1) := by decide +kernel
theorem dL_law_734 : decode cL_law 734 = .ok (.invokestatic 127, 3) := by decide +kernel
theorem dL_law_737 : decode cL_law 737 = .ok (.istore 5, 2) := by decide +kernel
theorem dL_law_739 : decode cL_law 739 = .ok (.aload_n 2, 1) := by decide +kernel
theorem dL_law_740 : decode cL_law 740 = .ok (.aload_n 0, 1) := by decide +kernel
theorem dL_law_741 : decode cL_law 741 = .ok (.iload 4, 2) := by decide +kernel
theorem dL_law_743 : decode cL_law 743 = .ok (.iconst 1, 1) := by decide +kernel
theorem dL_law_744 : decode cL_law 744 = .ok (.iadd, 1) := by decide +kernel
theorem dL_law_745 : decode cL_law 745 = .ok (.iaload, 1) := by decide +kernel
theorem dL_law_746 : decode cL_law 746 = .ok (.invokevirtual 129, 3) := by decide +kernel
theorem dL_law_749 : decode cL_law 749 = .ok (.istore 6, 2) := by decide +kernel
theorem dL_law_751 : decode cL_law 751 = .ok (.aload_n 2, 1) := by decide +kernel
theorem dL_law_752 : decode cL_law 752 = .ok (.invokevirtual 89, 3) := by decide +kernel
theorem dL_law_755 : decode cL_law 755 = .ok (.iload 5, 2) := by decide +kernel
theorem dL_law_757 : decode cL_law 757 = .ok (.if_icmp .eq 5, 3) := by decide +kernel
theorem dL_law_760 : decode cL_law 760 = .ok (.iconst 0, 1) := by decide +kernel
theorem dL_law_761 : decode cL_law 761 = .ok (.ireturn, 1) := by decide +kernel
theorem dL_law_762 : decode cL_law 762 = .ok (.iload 5, 2) := by decide +kernel
theorem dL_law_764 : decode cL_law 764 = .ok (.ifCond .ne 15, 3) := by decide +kernel
theorem dL_law_767 : decode cL_law 767 = .ok (.aload_n 3, 1) := by decide +kernel
theorem dL_law_768 : decode cL_law 768 = .ok (.iconst 0, 1) := by decide +kernel
theorem dL_law_769 : decode cL_law 769 = .ok (.laload, 1) := by decide +kernel
theorem dL_law_770 : decode cL_law 770 = .ok (.iload 6, 2) := by decide +kernel
theorem dL_law_772 : decode cL_law 772 = .ok (.i2l, 1) := by decide +kernel
theorem dL_law_773 : decode cL_law 773 = .ok (.lcmp, 1) := by decide +kernel
theorem dL_law_774 : decode cL_law 774 = .ok (.ifCond .eq 5, 3) := by decide +kernel
theorem dL_law_777 : decode cL_law 777 = .ok (.iconst 0, 1) := by decide +kernel
theorem dL_law_778 : decode cL_law 778 = .ok (.ireturn, 1) := by decide +kernel
theorem dL_law_779 : decode cL_law 779 = .ok (.goto 669, 3) := by decide +kernel
theorem dL_law_782 : decode cL_law 782 = .ok (.aload_n 1, 1) := by decide +kernel
theorem dL_law_783 : decode cL_law 783 = .ok (.aload_n 0, 1) := by decide +kernel
theorem dL_law_784 : decode cL_law 784 = .ok (.iload 4, 2) := by decide +kernel
theorem dL_law_786 : decode cL_law 786 = .ok (.iconst 1, 1) := by decide +kernel
theorem dL_law_787 : decode cL_law 787 = .ok (.iadd, 1) := by decide +kernel
theorem dL_law_788 : decode cL_law 788 = .ok (.iaload, 1) := by decide +kernel
theorem dL_law_789 : decode cL_law 789 = .ok (.aload_n 3, 1) := by decide +kernel
theorem dL_law_790 : decode cL_law 790 = .ok (.invokestatic 130, 3) := by decide +kernel
theorem dL_law_793 : decode cL_law 793 = .ok (.istore 5, 2) := by decide +kernel
theorem dL_law_795 : decode cL_law 795 = .ok (.aload_n 2, 1) := by decide +kernel
theorem dL_law_796 : decode cL_law 796 = .ok (.aload_n 0, 1) := by decide +kernel
end
section
theorem dL_law_797 : decode cL_law 797 = .ok (.iload 4, 2) := by decide +kernel
theorem dL_law_799 : decode cL_law 799 = .ok (.iconst 1, 1) := by decide +kernel
theorem dL_law_800 : decode cL_law 800 = .ok (.iadd, 1) := by decide +kernel
theorem dL_law_801 : decode cL_law 801 = .ok (.iaload, 1) := by decide +kernel
theorem dL_law_802 : decode cL_law 802 = .ok (.invokevirtual 132, 3) := by decide +kernel
theorem dL_law_805 : decode cL_law 805 = .ok (.istore 6, 2) := by decide +kernel
theorem dL_law_807 : decode cL_law 807 = .ok (.aload_n 2, 1) := by decide +kernel
theorem dL_law_808 : decode cL_law 808 = .ok (.invokevirtual 89, 3) := by decide +kernel
theorem dL_law_811 : decode cL_law 811 = .ok (.iload 5, 2) := by decide +kernel
theorem dL_law_813 : decode cL_law 813 = .ok (.if_icmp .eq 5, 3) := by decide +kernel
theorem dL_law_816 : decode cL_law 816 = .ok (.iconst 0, 1) := by decide +kernel
theorem dL_law_817 : decode cL_law 817 = .ok (.ireturn, 1) := by decide +kernel
theorem dL_law_818 : decode cL_law 818 = .ok (.iload 5, 2) := by decide +kernel
theorem dL_law_820 : decode cL_law 820 = .ok (.ifCond .ne 15, 3) := by decide +kernel
theorem dL_law_823 : decode cL_law 823 = .ok (.aload_n 3, 1) := by decide +kernel
theorem dL_law_824 : decode cL_law 824 = .ok (.iconst 0, 1) := by decide +kernel
theorem dL_law_825 : decode cL_law 825 = .ok (.laload, 1) := by decide +kernel
theorem dL_law_826 : decode cL_law 826 = .ok (.iload 6, 2) := by decide +kernel
theorem dL_law_828 : decode cL_law 828 = .ok (.i2l, 1) := by decide +kernel
theorem dL_law_829 : decode cL_law 829 = .ok (.lcmp, 1) := by decide +kernel
theorem dL_law_830 : decode cL_law 830 = .ok (.ifCond .eq 5, 3) := by decide +kernel
theorem dL_law_833 : decode cL_law 833 = .ok (.iconst 0, 1) := by decide +kernel
theorem dL_law_834 : decode cL_law 834 = .ok (.ireturn, 1) := by decide +kernel
theorem dL_law_835 : decode cL_law 835 = .ok (.goto 613, 3) := by decide +kernel
theorem dL_law_838 : decode cL_law 838 = .ok (.aload_n 1, 1) := by decide +kernel
theorem dL_law_839 : decode cL_law 839 = .ok (.aload_n 0, 1) := by decide +kernel
theorem dL_law_840 : decode cL_law 840 = .ok (.iload 4, 2) := by decide +kernel
theorem dL_law_842 : decode cL_law 842 = .ok (.iconst 1, 1) := by decide +kernel
theorem dL_law_843 : decode cL_law 843 = .ok (.iadd, 1) := by decide +kernel
theorem dL_law_844 : decode cL_law 844 = .ok (.iaload, 1) := by decide +kernel
theorem dL_law_845 : decode cL_law 845 = .ok (.aload_n 3, 1) := by decide +kernel
theorem dL_law_846 : decode cL_law 846 = .ok (.invokestatic 133, 3) := by decide +kernel
theorem dL_law_849 : decode cL_law 849 = .ok (.istore 5, 2) := by decide +kernel
theorem dL_law_851 : decode cL_law 851 = .ok (.aload_n 2, 1) := by decide +kernel
theorem dL_law_852 : decode cL_law 852 = .ok (.aload_n 0, 1) := by decide +kernel
theorem dL_law_853 : decode cL_law 853 = .ok (.iload 4, 2) := by decide +kernel
theorem dL_law_855 : decode cL_law 855 = .ok (.iconst 1, 1) := by decide +kernel
theorem dL_law_856 : decode cL_law 856 = .ok (.iadd, 1) := by decide +kernel
theorem dL_law_857 : decode cL_law 857 = .ok (.iaload, 1) := by decide +kernel
theorem dL_law_858 : decode cL_law 858 = .ok (.invokevirtual 135, 3) := by decide +kernel
theorem dL_law_861 : decode cL_law 861 = .ok (.istore 6, 2) := by decide +kernel
theorem dL_law_863 : decode cL_law 863 = .ok (.aload_n 2, 1) := by decide +kernel
theorem dL_law_864 : decode cL_law 864 = .ok (.invokevirtual 89, 3) := by decide +kernel
theorem dL_law_867 : decode cL_law 867 = .ok (.iload 5, 2) := by decide +kernel
theorem dL_law_869 : decode cL_law 869 = .ok (.if_icmp .eq 5, 3) := by decide +kernel
theorem dL_law_872 : decode cL_law 872 = .ok (.iconst 0, 1) := by decide +kernel
theorem dL_law_873 : decode cL_law 873 = .ok (.ireturn, 1) := by decide +kernel
theorem dL_law_874 : decode cL_law 874 = .ok (.iload 5, 2) := by decide +kernel
theorem dL_law_876 : decode cL_law 876 = .ok (.ifCond .ne 15, 3) := by decide +kernel
theorem dL_law_879 : decode cL_law 879 = .ok (.aload_n 3, 1) := by decide +kernel
theorem dL_law_880 : decode cL_law 880 = .ok (.iconst 0, 1) := by decide +kernel
theorem dL_law_881 : decode cL_law 881 = .ok (.laload, 1) := by decide +kernel
theorem dL_law_882 : decode cL_law 882 = .ok (.iload 6, 2) := by decide +kernel
theorem dL_law_884 : decode cL_law 884 = .ok (.i2l, 1) := by decide +kernel
theorem dL_law_885 : decode cL_law 885 = .ok (.lcmp, 1) := by decide +kernel
theorem dL_law_886 : decode cL_law 886 = .ok (.ifCond .eq 5, 3) := by decide +kernel
theorem dL_law_889 : decode cL_law 889 = .ok (.iconst 0, 1) := by decide +kernel
theorem dL_law_890 : decode cL_law 890 = .ok (.ireturn, 1) := by decide +kernel
theorem dL_law_891 : decode cL_law 891 = .ok (.goto 557, 3) := by decide +kernel
theorem dL_law_894 : decode cL_law 894 = .ok (.aload_n 1, 1) := by decide +kernel
theorem dL_law_895 : decode cL_law 895 = .ok (.aload_n 0, 1) := by decide +kernel
theorem dL_law_896 : decode cL_law 896 = .ok (.iload 4, 2) := by decide +kernel
theorem dL_law_898 : decode cL_law 898 = .ok (.iconst 1, 1) := by decide +kernel
theorem dL_law_899 : decode cL_law 899 = .ok (.iadd, 1) := by decide +kernel
theorem dL_law_900 : decode cL_law 900 = .ok (.iaload, 1) := by decide +kernel
theorem dL_law_901 : decode cL_law 901 = .ok (.aload_n 3, 1) := by decide +kernel
theorem dL_law_902 : decode cL_law 902 = .ok (.invokestatic 136, 3) := by decide +kernel
theorem dL_law_905 : decode cL_law 905 = .ok (.istore 5, 2) := by decide +kernel
theorem dL_law_907 : decode cL_law 907 = .ok (.aload_n 2, 1) := by decide +kernel
theorem dL_law_908 : decode cL_law 908 = .ok (.aload_n 0, 1) := by decide +kernel
theorem dL_law_909 : decode cL_law 909 = .ok (.iload 4, 2) := by decide +kernel
theorem dL_law_911 : decode cL_law 911 = .ok (.iconst 1, 1) := by decide +kernel
theorem dL_law_912 : decode cL_law 912 = .ok (.iadd, 1) := by decide +kernel
theorem dL_law_913 : decode cL_law 913 = .ok (.iaload, 1) := by decide +kernel
theorem dL_law_914 : decode cL_law 914 = .ok (.invokevirtual 138, 3) := by decide +kernel
theorem dL_law_917 : decode cL_law 917 = .ok (.istore 6, 2) := by decide +kernel
theorem dL_law_919 : decode cL_law 919 = .ok (.aload_n 2, 1) := by decide +kernel
theorem dL_law_920 : decode cL_law 920 = .ok (.invokevirtual 89, 3) := by decide +kernel
theorem dL_law_923 : decode cL_law 923 = .ok (.iload 5, 2) := by decide +kernel
theorem dL_law_925 : decode cL_law 925 = .ok (.if_icmp .eq 5, 3) := by decide +kernel
theorem dL_law_928 : decode cL_law 928 = .ok (.iconst 0, 1) := by decide +kernel
theorem dL_law_929 : decode cL_law 929 = .ok (.ireturn, 1) := by decide +kernel
theorem dL_law_930 : decode cL_law 930 = .ok (.iload 5, 2) := by decide +kernel
theorem dL_law_932 : decode cL_law 932 = .ok (.ifCond .ne 15, 3) := by decide +kernel
theorem dL_law_935 : decode cL_law 935 = .ok (.aload_n 3, 1) := by decide +kernel
theorem dL_law_936 : decode cL_law 936 = .ok (.iconst 0, 1) := by decide +kernel
theorem dL_law_937 : decode cL_law 937 = .ok (.laload, 1) := by decide +kernel
theorem dL_law_938 : decode cL_law 938 = .ok (.iload 6, 2) := by decide +kernel
theorem dL_law_940 : decode cL_law 940 = .ok (.i2l, 1) := by decide +kernel
theorem dL_law_941 : decode cL_law 941 = .ok (.lcmp, 1) := by decide +kernel
theorem dL_law_942 : decode cL_law 942 = .ok (.ifCond .eq 5, 3) := by decide +kernel
theorem dL_law_945 : decode cL_law 945 = .ok (.iconst 0, 1) := by decide +kernel
theorem dL_law_946 : decode cL_law 946 = .ok (.ireturn, 1) := by decide +kernel
theorem dL_law_947 : decode cL_law 947 = .ok (.goto 501, 3) := by decide +kernel
theorem dL_law_950 : decode cL_law 950 = .ok (.aload_n 1, 1) := by decide +kernel
theorem dL_law_951 : decode cL_law 951 = .ok (.aload_n 0, 1) := by decide +kernel
theorem dL_law_952 : decode cL_law 952 = .ok (.iload 4, 2) := by decide +kernel
theorem dL_law_954 : decode cL_law 954 = .ok (.iconst 1, 1) := by decide +kernel
theorem dL_law_955 : decode cL_law 955 = .ok (.iadd, 1) := by decide +kernel
theorem dL_law_956 : decode cL_law 956 = .ok (.iaload, 1) := by decide +kernel
theorem dL_law_957 : decode cL_law 957 = .ok (.aload_n 3, 1) := by decide +kernel
theorem dL_law_958 : decode cL_law 958 = .ok (.invokestatic 139, 3) := by decide +kernel
theorem dL_law_961 : decode cL_law 961 = .ok (.istore 5, 2) := by decide +kernel
theorem dL_law_963 : decode cL_law 963 = .ok (.aload_n 2, 1) := by decide +kernel
theorem dL_law_964 : decode cL_law 964 = .ok (.aload_n 0, 1) := by decide +kernel
theorem dL_law_965 : decode cL_law 965 = .ok (.iload 4, 2) := by decide +kernel
theorem dL_law_967 : decode cL_law 967 = .ok (.iconst 1, 1) := by decide +kernel
theorem dL_law_968 : decode cL_law 968 = .ok (.iadd, 1) := by decide +kernel
theorem dL_law_969 : decode cL_law 969 = .ok (.iaload, 1) := by decide +kernel
theorem dL_law_970 : decode cL_law 970 = .ok (.invokevirtual 141, 3) := by decide +kernel
theorem dL_law_973 : decode cL_law 973 = .ok (.istore 6, 2) := by decide +kernel
theorem dL_law_975 : decode cL_law 975 = .ok (.aload_n 2, 1) := by decide +kernel
theorem dL_law_976 : decode cL_law 976 = .ok (.invokevirtual 89, 3) := by decide +kernel
theorem dL_law_979 : decode cL_law 979 = .ok (.iload 5, 2) := by decide +kernel
theorem dL_law_981 : decode cL_law 981 = .ok (.if_icmp .eq 5, 3) := by decide +kernel
theorem dL_law_984 : decode cL_law 984 = .ok (.iconst 0, 1) := by decide +kernel
theorem dL_law_985 : decode cL_law 985 = .ok (.ireturn, 1) := by decide +kernel
theorem dL_law_986 : decode cL_law 986 = .ok (.iload 5, 2) := by decide +kernel
theorem dL_law_988 : decode cL_law 988 = .ok (.ifCond .ne 15, 3) := by decide +kernel
theorem dL_law_991 : decode cL_law 991 = .ok (.aload_n 3, 1) := by decide +kernel
theorem dL_law_992 : decode cL_law 992 = .ok (.iconst 0, 1) := by decide +kernel
theorem dL_law_993 : decode cL_law 993 = .ok (.laload, 1) := by decide +kernel
theorem dL_law_994 : decode cL_law 994 = .ok (.iload 6, 2) := by decide +kernel
theorem dL_law_996 : decode cL_law 996 = .ok (.i2l, 1) := by decide +kernel
theorem dL_law_997 : decode cL_law 997 = .ok (.lcmp, 1) := by decide +kernel
theorem dL_law_998 : decode cL_law 998 = .ok (.ifCond .eq 5, 3) := by decide +kernel
theorem dL_law_1001 : decode cL_law 1001 = .ok (.iconst 0, 1) := by decide +kernel
theorem dL_law_1002 : decode cL_law 1002 = .ok (.ireturn, 1) := by decide +kernel
theorem dL_law_1003 : decode cL_law 1003 = .ok (.goto 445, 3) := by decide +kernel
theorem dL_law_1006 : decode cL_law 1006 = .ok (.aload_n 1, 1) := by decide +kernel
theorem dL_law_1007 : decode cL_law 1007 = .ok (.invokevirtual 142, 3) := by decide +kernel
theorem dL_law_1010 : decode cL_law 1010 = .ok (.aload_n 2, 1) := by decide +kernel
theorem dL_law_1011 : decode cL_law 1011 = .ok (.invokevirtual 145, 3) := by decide +kernel
theorem dL_law_1014 : decode cL_law 1014 = .ok (.if_icmp .eq 434, 3) := by decide +kernel
theorem dL_law_1017 : decode cL_law 1017 = .ok (.iconst 0, 1) := by decide +kernel
theorem dL_law_1018 : decode cL_law 1018 = .ok (.ireturn, 1) := by decide +kernel
theorem dL_law_1019 : decode cL_law 1019 = .ok (.aload_n 1, 1) := by decide +kernel
theorem dL_law_1020 : decode cL_law 1020 = .ok (.invokevirtual 146, 3) := by decide +kernel
theorem dL_law_1023 : decode cL_law 1023 = .ok (.aload_n 2, 1) := by decide +kernel
theorem dL_law_1024 : decode cL_law 1024 = .ok (.invokevirtual 149, 3) := by decide +kernel
theorem dL_law_1027 : decode cL_law 1027 = .ok (.if_icmp .eq 421, 3) := by decide +kernel
theorem dL_law_1030 : decode cL_law 1030 = .ok (.iconst 0, 1) := by decide +kernel
theorem dL_law_1031 : decode cL_law 1031 = .ok (.ireturn, 1) := by decide +kernel
theorem dL_law_1032 : decode cL_law 1032 = .ok (.aload_n 1, 1) := by decide +kernel
theorem dL_law_1033 : decode cL_law 1033 = .ok (.aload_n 0, 1) := by decide +kernel
theorem dL_law_1034 : decode cL_law 1034 = .ok (.iload 4, 2) := by decide +kernel
theorem dL_law_1036 : decode cL_law 1036 = .ok (.iconst 1, 1) := by decide +kernel
theorem dL_law_1037 : decode cL_law 1037 = .ok (.iadd, 1) := by decide +kernel
theorem dL_law_1038 : decode cL_law 1038 = .ok (.iaload, 1) := by decide +kernel
theorem dL_law_1039 : decode cL_law 1039 = .ok (.aload_n 3, 1) := by decide +kernel
theorem dL_law_1040 : decode cL_law 1040 = .ok (.invokestatic 150, 3) := by decide +kernel
theorem dL_law_1043 : decode cL_law 1043 = .ok (.istore 5, 2) := by decide +kernel
theorem dL_law_1045 : decode cL_law 1045 = .ok (.aload_n 2, 1) := by decide +kernel
theorem dL_law_1046 : decode cL_law 1046 = .ok (.aload_n 0, 1) := by decide +kernel
theorem dL_law_1047 : decode cL_law 1047 = .ok (.iload 4, 2) := by decide +kernel
theorem dL_law_1049 : decode cL_law 1049 = .ok (.iconst 1, 1) := by decide +kernel
theorem dL_law_1050 : decode cL_law 1050 = .ok (.iadd, 1) := by decide +kernel
theorem dL_law_1051 : decode cL_law 1051 = .ok (.iaload, 1) := by decide +kernel
theorem dL_law_1052 : decode cL_law 1052 = .ok (.invokevirtual 152, 3) := by decide +kernel
theorem dL_law_1055 : decode cL_law 1055 = .ok (.istore 6, 2) := by decide +kernel
theorem dL_law_1057 : decode cL_law 1057 = .ok (.aload_n 2, 1) := by decide +kernel
theorem dL_law_1058 : decode cL_law 1058 = .ok (.invokevirtual 89, 3) := by decide +kernel
theorem dL_law_1061 : decode cL_law 1061 = .ok (.iload 5, 2) := by decide +kernel
theorem dL_law_1063 : decode cL_law 1063 = .ok (.if_icmp .eq 5, 3) := by decide +kernel
theorem dL_law_1066 : decode cL_law 1066 = .ok (.iconst 0, 1) := by decide +kernel
theorem dL_law_1067 : decode cL_law 1067 = .ok (.ireturn, 1) := by decide +kernel
theorem dL_law_1068 : decode cL_law 1068 = .ok (.iload 5, 2) := by decide +kernel
theorem dL_law_1070 : decode cL_law 1070 = .ok (.ifCond .ne 15, 3) := by decide +kernel
theorem dL_law_1073 : decode cL_law 1073 = .ok (.aload_n 3, 1) := by decide +kernel
theorem dL_law_1074 : decode cL_law 1074 = .ok (.iconst 0, 1) := by decide +kernel
theorem dL_law_1075 : decode cL_law 1075 = .ok (.laload, 1) := by decide +kernel
theorem dL_law_1076 : decode cL_law 1076 = .ok (.iload 6, 2) := by decide +kernel
theorem dL_law_1078 : decode cL_law 1078 = .ok (.i2l, 1) := by decide +kernel
theorem dL_law_1079 : decode cL_law 1079 = .ok (.lcmp, 1) := by decide +kernel
theorem dL_law_1080 : decode cL_law 1080 = .ok (.ifCond .eq 5, 3) := by decide +kernel
theorem dL_law_1083 : decode cL_law 1083 = .ok (.iconst 0, 1) := by decide +kernel
theorem dL_law_1084 : decode cL_law 1084 = .ok (.ireturn, 1) := by decide +kernel
theorem dL_law_1085 : decode cL_law 1085 = .ok (.goto 363, 3) := by decide +kernel
theorem dL_law_1088 : decode cL_law 1088 = .ok (.aload_n 1, 1) := by decide +kernel
theorem dL_law_1089 : decode cL_law 1089 = .ok (.aload_n 0, 1) := by decide +kernel
theorem dL_law_1090 : decode cL_law 1090 = .ok (.iload 4, 2) := by decide +kernel
theorem dL_law_1092 : decode cL_law 1092 = .ok (.iconst 1, 1) := by decide +kernel
theorem dL_law_1093 : decode cL_law 1093 = .ok (.iadd, 1) := by decide +kernel
theorem dL_law_1094 : decode cL_law 1094 = .ok (.iaload, 1) := by decide +kernel
theorem dL_law_1095 : decode cL_law 1095 = .ok (.aload_n 0, 1) := by decide +kernel
theorem dL_law_1096 : decode cL_law 1096 = .ok (.iload 4, 2) := by decide +kernel
theorem dL_law_1098 : decode cL_law 1098 = .ok (.iconst 2, 1) := by decide +kernel
theorem dL_law_1099 : decode cL_law 1099 = .ok (.iadd, 1) := by decide +kernel
theorem dL_law_1100 : decode cL_law 1100 = .ok (.iaload, 1) := by decide +kernel
theorem dL_law_1101 : decode cL_law 1101 = .ok (.aload_n 3, 1) := by decide +kernel
theorem dL_law_1102 : decode cL_law 1102 = .ok (.invokestatic 153, 3) := by decide +kernel
theorem dL_law_1105 : decode cL_law 1105 = .ok (.istore 5, 2) := by decide +kernel
theorem dL_law_1107 : decode cL_law 1107 = .ok (.aload_n 2, 1) := by decide +kernel
theorem dL_law_1108 : decode cL_law 1108 = .ok (.aload_n 0, 1) := by decide +kernel
theorem dL_law_1109 : decode cL_law 1109 = .ok (.iload 4, 2) := by decide +kernel
theorem dL_law_1111 : decode cL_law 1111 = .ok (.iconst 1, 1) := by decide +kernel
theorem dL_law_1112 : decode cL_law 1112 = .ok (.iadd, 1) := by decide +kernel
theorem dL_law_1113 : decode cL_law 1113 = .ok (.iaload, 1) := by decide +kernel
theorem dL_law_1114 : decode cL_law 1114 = .ok (.aload_n 0, 1) := by decide +kernel
theorem dL_law_1115 : decode cL_law 1115 = .ok (.iload 4, 2) := by decide +kernel
theorem dL_law_1117 : decode cL_law 1117 = .ok (.iconst 2, 1) := by decide +kernel
theorem dL_law_1118 : decode cL_law 1118 = .ok (.iadd, 1) := by decide +kernel
theorem dL_law_1119 : decode cL_law 1119 = .ok (.iaload, 1) := by decide +kernel
theorem dL_law_1120 : decode cL_law 1120 = .ok (.invokevirtual 155, 3) := by decide +kernel
theorem dL_law_1123 : decode cL_law 1123 = .ok (.istore 6, 2) := by decide +kernel
theorem dL_law_1125 : decode cL_law 1125 = .ok (.aload_n 2, 1) := by decide +kernel
theorem dL_law_1126 : decode cL_law 1126 = .ok (.invokevirtual 89, 3) := by decide +kernel
theorem dL_law_1129 : decode cL_law 1129 = .ok (.iload 5, 2) := by decide +kernel
theorem dL_law_1131 : decode cL_law 1131 = .ok (.if_icmp .eq 5, 3) := by decide +kernel
theorem dL_law_1134 : decode cL_law 1134 = .ok (.iconst 0, 1) := by decide +kernel
theorem dL_law_1135 : decode cL_law 1135 = .ok (.ireturn, 1) := by decide +kernel
theorem dL_law_1136 : decode cL_law 1136 = .ok (.iload 5, 2) := by decide +kernel
theorem dL_law_1138 : decode cL_law 1138 = .ok (.ifCond .ne 15, 3) := by decide +kernel
theorem dL_law_1141 : decode cL_law 1141 = .ok (.aload_n 3, 1) := by decide +kernel
theorem dL_law_1142 : decode cL_law 1142 = .ok (.iconst 0, 1) := by decide +kernel
theorem dL_law_1143 : decode cL_law 1143 = .ok (.laload, 1) := by decide +kernel
theorem dL_law_1144 : decode cL_law 1144 = .ok (.iload 6, 2) := by decide +kernel
theorem dL_law_1146 : decode cL_law 1146 = .ok (.i2l, 1) := by decide +kernel
theorem dL_law_1147 : decode cL_law 1147 = .ok (.lcmp, 1) := by decide +kernel
theorem dL_law_1148 : decode cL_law 1148 = .ok (.ifCond .eq 5, 3) := by decide +kernel
theorem dL_law_1151 : decode cL_law 1151 = .ok (.iconst 0, 1) := by decide +kernel
theorem dL_law_1152 : decode cL_law 1152 = .ok (.ireturn, 1) := by decide +kernel
theorem dL_law_1153 : decode cL_law 1153 = .ok (.goto 295, 3) := by decide +kernel
theorem dL_law_1156 : decode cL_law 1156 = .ok (.aload_n 1, 1) := by decide +kernel
theorem dL_law_1157 : decode cL_law 1157 = .ok (.aload_n 0, 1) := by decide +kernel
theorem dL_law_1158 : decode cL_law 1158 = .ok (.iload 4, 2) := by decide +kernel
theorem dL_law_1160 : decode cL_law 1160 = .ok (.iconst 1, 1) := by decide +kernel
theorem dL_law_1161 : decode cL_law 1161 = .ok (.iadd, 1) := by decide +kernel
theorem dL_law_1162 : decode cL_law 1162 = .ok (.iaload, 1) := by decide +kernel
theorem dL_law_1163 : decode cL_law 1163 = .ok (.aload_n 3, 1) := by decide +kernel
theorem dL_law_1164 : decode cL_law 1164 = .ok (.invokestatic 156, 3) := by decide +kernel
theorem dL_law_1167 : decode cL_law 1167 = .ok (.istore 5, 2) := by decide +kernel
theorem dL_law_1169 : decode cL_law 1169 = .ok (.aload_n 2, 1) := by decide +kernel
theorem dL_law_1170 : decode cL_law 1170 = .ok (.aload_n 0, 1) := by decide +kernel
theorem dL_law_1171 : decode cL_law 1171 = .ok (.iload 4, 2) := by decide +kernel
theorem dL_law_1173 : decode cL_law 1173 = .ok (.iconst 1, 1) := by decide +kernel
theorem dL_law_1174 : decode cL_law 1174 = .ok (.iadd, 1) := by decide +kernel
theorem dL_law_1175 : decode cL_law 1175 = .ok (.iaload, 1) := by decide +kernel
theorem dL_law_1176 : decode cL_law 1176 = .ok (.invokevirtual 158, 3) := by decide +kernel
theorem dL_law_1179 : decode cL_law 1179 = .ok (.istore 6, 2) := by decide +kernel
theorem dL_law_1181 : decode cL_law 1181 = .ok (.aload_n 2, 1) := by decide +kernel
theorem dL_law_1182 : decode cL_law 1182 = .ok (.invokevirtual 89, 3) := by decide +kernel
theorem dL_law_1185 : decode cL_law 1185 = .ok (.iload 5, 2) := by decide +kernel
theorem dL_law_1187 : decode cL_law 1187 = .ok (.if_icmp .eq 5, 3) := by decide +kernel
theorem dL_law_1190 : decode cL_law 1190 = .ok (.iconst 0, 1) := by decide +kernel
theorem dL_law_1191 : decode cL_law 1191 = .ok (.ireturn, 1) := by decide +kernel
theorem dL_law_1192 : decode cL_law 1192 = .ok (.iload 5, 2) := by decide +kernel
theorem dL_law_1194 : decode cL_law 1194 = .ok (.ifCond .ne 15, 3) := by decide +kernel
theorem dL_law_1197 : decode cL_law 1197 = .ok (.aload_n 3, 1) := by decide +kernel
theorem dL_law_1198 : decode cL_law 1198 = .ok (.iconst 0, 1) := by decide +kernel
theorem dL_law_1199 : decode cL_law 1199 = .ok (.laload, 1) := by decide +kernel
theorem dL_law_1200 : decode cL_law 1200 = .ok (.iload 6, 2) := by decide +kernel
theorem dL_law_1202 : decode cL_law 1202 = .ok (.i2l, 1) := by decide +kernel
theorem dL_law_1203 : decode cL_law 1203 = .ok (.lcmp, 1) := by decide +kernel
theorem dL_law_1204 : decode cL_law 1204 = .ok (.ifCond .eq 5, 3) := by decide +kernel
theorem dL_law_1207 : decode cL_law 1207 = .ok (.iconst 0, 1) := by decide +kernel
theorem dL_law_1208 : decode cL_law 1208 = .ok (.ireturn, 1) := by decide +kernel
theorem dL_law_1209 : decode cL_law 1209 = .ok (.goto 239, 3) := by decide +kernel
theorem dL_law_1212 : decode cL_law 1212 = .ok (.aload_n 1, 1) := by decide +kernel
theorem dL_law_1213 : decode cL_law 1213 = .ok (.aload_n 0, 1) := by decide +kernel
theorem dL_law_1214 : decode cL_law 1214 = .ok (.iload 4, 2) := by decide +kernel
theorem dL_law_1216 : decode cL_law 1216 = .ok (.iconst 1, 1) := by decide +kernel
theorem dL_law_1217 : decode cL_law 1217 = .ok (.iadd, 1) := by decide +kernel
theorem dL_law_1218 : decode cL_law 1218 = .ok (.iaload, 1) := by decide +kernel
theorem dL_law_1219 : decode cL_law 1219 = .ok (.aload_n 3, 1) := by decide +kernel
theorem dL_law_1220 : decode cL_law 1220 = .ok (.invokestatic 159, 3) := by decide +kernel
theorem dL_law_1223 : decode cL_law 1223 = .ok (.istore 5, 2) := by decide +kernel
theorem dL_law_1225 : decode cL_law 1225 = .ok (.aload_n 2, 1) := by decide +kernel
theorem dL_law_1226 : decode cL_law 1226 = .ok (.aload_n 0, 1) := by decide +kernel
theorem dL_law_1227 : decode cL_law 1227 = .ok (.iload 4, 2) := by decide +kernel
theorem dL_law_1229 : decode cL_law 1229 = .ok (.iconst 1, 1) := by decide +kernel
theorem dL_law_1230 : decode cL_law 1230 = .ok (.iadd, 1) := by decide +kernel
theorem dL_law_1231 : decode cL_law 1231 = .ok (.iaload, 1) := by decide +kernel
theorem dL_law_1232 : decode cL_law 1232 = .ok (.invokevirtual 161, 3) := by decide +kernel
theorem dL_law_1235 : decode cL_law 1235 = .ok (.istore 6, 2) := by decide +kernel
theorem dL_law_1237 : decode cL_law 1237 = .ok (.aload_n 2, 1) := by decide +kernel
theorem dL_law_1238 : decode cL_law 1238 = .ok (.invokevirtual 89, 3) := by decide +kernel
theorem dL_law_1241 : decode cL_law 1241 = .ok (.iload 5, 2) := by decide +kernel
theorem dL_law_1243 : decode cL_law 1243 = .ok (.if_icmp .eq 5, 3) := by decide +kernel
theorem dL_law_1246 : decode cL_law 1246 = .ok (.iconst 0, 1) := by decide +kernel
theorem dL_law_1247 : decode cL_law 1247 = .ok (.ireturn, 1) := by decide +kernel
theorem dL_law_1248 : decode cL_law 1248 = .ok (.iload 5, 2) := by decide +kernel
theorem dL_law_1250 : decode cL_law 1250 = .ok (.ifCond .ne 15, 3) := by decide +kernel
theorem dL_law_1253 : decode cL_law 1253 = .ok (.aload_n 3, 1) := by decide +kernel
theorem dL_law_1254 : decode cL_law 1254 = .ok (.iconst 0, 1) := by decide +kernel
theorem dL_law_1255 : decode cL_law 1255 = .ok (.laload, 1) := by decide +kernel
theorem dL_law_1256 : decode cL_law 1256 = .ok (.iload 6, 2) := by decide +kernel
theorem dL_law_1258 : decode cL_law 1258 = .ok (.i2l, 1) := by decide +kernel
theorem dL_law_1259 : decode cL_law 1259 = .ok (.lcmp, 1) := by decide +kernel
theorem dL_law_1260 : decode cL_law 1260 = .ok (.ifCond .eq 5, 3) := by decide +kernel
theorem dL_law_1263 : decode cL_law 1263 = .ok (.iconst 0, 1) := by decide +kernel
theorem dL_law_1264 : decode cL_law 1264 = .ok (.ireturn, 1) := by decide +kernel
theorem dL_law_1265 : decode cL_law 1265 = .ok (.goto 183, 3) := by decide +kernel
theorem dL_law_1268 : decode cL_law 1268 = .ok (.aload_n 1, 1) := by decide +kernel
theorem dL_law_1269 : decode cL_law 1269 = .ok (.invokevirtual 162, 3) := by decide +kernel
theorem dL_law_1272 : decode cL_law 1272 = .ok (.aload_n 2, 1) := by decide +kernel
theorem dL_law_1273 : decode cL_law 1273 = .ok (.invokevirtual 165, 3) := by decide +kernel
theorem dL_law_1276 : decode cL_law 1276 = .ok (.if_icmp .eq 172, 3) := by decide +kernel
theorem dL_law_1279 : decode cL_law 1279 = .ok (.iconst 0, 1) := by decide +kernel
theorem dL_law_1280 : decode cL_law 1280 = .ok (.ireturn, 1) := by decide +kernel
theorem dL_law_1281 : decode cL_law 1281 = .ok (.aload_n 1, 1) := by decide +kernel
theorem dL_law_1282 : decode cL_law 1282 = .ok (.aload_n 0, 1) := by decide +kernel
theorem dL_law_1283 : decode cL_law 1283 = .ok (.iload 4, 2) := by decide +kernel
theorem dL_law_1285 : decode cL_law 1285 = .ok (.iconst 1, 1) := by decide +kernel
theorem dL_law_1286 : decode cL_law 1286 = .ok (.iadd, 1) := by decide +kernel
theorem dL_law_1287 : decode cL_law 1287 = .ok (.iaload, 1) := by decide +kernel
theorem dL_law_1288 : decode cL_law 1288 = .ok (.aload_n 3, 1) := by decide +kernel
theorem dL_law_1289 : decode cL_law 1289 = .ok (.invokestatic 166, 3) := by decide +kernel
theorem dL_law_1292 : decode cL_law 1292 = .ok (.istore 5, 2) := by decide +kernel
theorem dL_law_1294 : decode cL_law 1294 = .ok (.aload_n 2, 1) := by decide +kernel
theorem dL_law_1295 : decode cL_law 1295 = .ok (.aload_n 0, 1) := by decide +kernel
theorem dL_law_1296 : decode cL_law 1296 = .ok (.iload 4, 2) := by decide +kernel
theorem dL_law_1298 : decode cL_law 1298 = .ok (.iconst 1, 1) := by decide +kernel
theorem dL_law_1299 : decode cL_law 1299 = .ok (.iadd, 1) := by decide +kernel
theorem dL_law_1300 : decode cL_law 1300 = .ok (.iaload, 1) := by decide +kernel
theorem dL_law_1301 : decode cL_law 1301 = .ok (.invokevirtual 168, 3) := by decide +kernel
theorem dL_law_1304 : decode cL_law 1304 = .ok (.istore 6, 2) := by decide +kernel
theorem dL_law_1306 : decode cL_law 1306 = .ok (.aload_n 2, 1) := by decide +kernel
theorem dL_law_1307 : decode cL_law 1307 = .ok (.invokevirtual 89, 3) := by decide +kernel
theorem dL_law_1310 : decode cL_law 1310 = .ok (.iload 5, 2) := by decide +kernel
theorem dL_law_1312 : decode cL_law 1312 = .ok (.if_icmp .eq 5, 3) := by decide +kernel
theorem dL_law_1315 : decode cL_law 1315 = .ok (.iconst 0, 1) := by decide +kernel
theorem dL_law_1316 : decode cL_law 1316 = .ok (.ireturn, 1) := by decide +kernel
theorem dL_law_1317 : decode cL_law 1317 = .ok (.iload 5, 2) := by decide +kernel
theorem dL_law_1319 : decode cL_law 1319 = .ok (.ifCond .ne 15, 3) := by decide +kernel
theorem dL_law_1322 : decode cL_law 1322 = .ok (.aload_n 3, 1) := by decide +kernel
theorem dL_law_1323 : decode cL_law 1323 = .ok (.iconst 0, 1) := by decide +kernel
theorem dL_law_1324 : decode cL_law 1324 = .ok (.laload, 1) := by decide +kernel
theorem dL_law_1325 : decode cL_law 1325 = .ok (.iload 6, 2) := by decide +kernel
theorem dL_law_1327 : decode cL_law 1327 = .ok (.i2l, 1) := by decide +kernel
theorem dL_law_1328 : decode cL_law 1328 = .ok (.lcmp, 1) := by decide +kernel
theorem dL_law_1329 : decode cL_law 1329 = .ok (.ifCond .eq 5, 3) := by decide +kernel
theorem dL_law_1332 : decode cL_law 1332 = .ok (.iconst 0, 1) := by decide +kernel
theorem dL_law_1333 : decode cL_law 1333 = .ok (.ireturn, 1) := by decide +kernel
theorem dL_law_1334 : decode cL_law 1334 = .ok (.goto 114, 3) := by decide +kernel
theorem dL_law_1337 : decode cL_law 1337 = .ok (.aload_n 1, 1) := by decide +kernel
theorem dL_law_1338 : decode cL_law 1338 = .ok (.aload_n 0, 1) := by decide +kernel
theorem dL_law_1339 : decode cL_law 1339 = .ok (.iload 4, 2) := by decide +kernel
theorem dL_law_1341 : decode cL_law 1341 = .ok (.iconst 1, 1) := by decide +kernel
theorem dL_law_1342 : decode cL_law 1342 = .ok (.iadd, 1) := by decide +kernel
theorem dL_law_1343 : decode cL_law 1343 = .ok (.iaload, 1) := by decide +kernel
theorem dL_law_1344 : decode cL_law 1344 = .ok (.aload_n 3, 1) := by decide +kernel
theorem dL_law_1345 : decode cL_law 1345 = .ok (.invokestatic 169, 3) := by decide +kernel
theorem dL_law_1348 : decode cL_law 1348 = .ok (.istore 5, 2) := by decide +kernel
theorem dL_law_1350 : decode cL_law 1350 = .ok (.aload_n 2, 1) := by decide +kernel
theorem dL_law_1351 : decode cL_law 1351 = .ok (.aload_n 0, 1) := by decide +kernel
theorem dL_law_1352 : decode cL_law 1352 = .ok (.iload 4, 2) := by decide +kernel
theorem dL_law_1354 : decode cL_law 1354 = .ok (.iconst 1, 1) := by decide +kernel
theorem dL_law_1355 : decode cL_law 1355 = .ok (.iadd, 1) := by decide +kernel
theorem dL_law_1356 : decode cL_law 1356 = .ok (.iaload, 1) := by decide +kernel
theorem dL_law_1357 : decode cL_law 1357 = .ok (.invokevirtual 171, 3) := by decide +kernel
theorem dL_law_1360 : decode cL_law 1360 = .ok (.istore 6, 2) := by decide +kernel
theorem dL_law_1362 : decode cL_law 1362 = .ok (.aload_n 2, 1) := by decide +kernel
theorem dL_law_1363 : decode cL_law 1363 = .ok (.invokevirtual 89, 3) := by decide +kernel
theorem dL_law_1366 : decode cL_law 1366 = .ok (.iload 5, 2) := by decide +kernel
theorem dL_law_1368 : decode cL_law 1368 = .ok (.if_icmp .eq 5, 3) := by decide +kernel
theorem dL_law_1371 : decode cL_law 1371 = .ok (.iconst 0, 1) := by decide +kernel
theorem dL_law_1372 : decode cL_law 1372 = .ok (.ireturn, 1) := by decide +kernel
theorem dL_law_1373 : decode cL_law 1373 = .ok (.iload 5, 2) := by decide +kernel
theorem dL_law_1375 : decode cL_law 1375 = .ok (.ifCond .ne 15, 3) := by decide +kernel
theorem dL_law_1378 : decode cL_law 1378 = .ok (.aload_n 3, 1) := by decide +kernel
theorem dL_law_1379 : decode cL_law 1379 = .ok (.iconst 0, 1) := by decide +kernel
theorem dL_law_1380 : decode cL_law 1380 = .ok (.laload, 1) := by decide +kernel
theorem dL_law_1381 : decode cL_law 1381 = .ok (.iload 6, 2) := by decide +kernel
theorem dL_law_1383 : decode cL_law 1383 = .ok (.i2l, 1) := by decide +kernel
theorem dL_law_1384 : decode cL_law 1384 = .ok (.lcmp, 1) := by decide +kernel
theorem dL_law_1385 : decode cL_law 1385 = .ok (.ifCond .eq 5, 3) := by decide +kernel
theorem dL_law_1388 : decode cL_law 1388 = .ok (.iconst 0, 1) := by decide +kernel
theorem dL_law_1389 : decode cL_law 1389 = .ok (.ireturn, 1) := by decide +kernel
theorem dL_law_1390 : decode cL_law 1390 = .ok (.goto 58, 3) := by decide +kernel
theorem dL_law_1393 : decode cL_law 1393 = .ok (.aload_n 1, 1) := by decide +kernel
theorem dL_law_1394 : decode cL_law 1394 = .ok (.invokevirtual 172, 3) := by decide +kernel
theorem dL_law_1397 : decode cL_law 1397 = .ok (.dstore 5, 2) := by decide +kernel
theorem dL_law_1399 : decode cL_law 1399 = .ok (.aload_n 2, 1) := by decide +kernel
theorem dL_law_1400 : decode cL_law 1400 = .ok (.invokevirtual 176, 3) := by decide +kernel
theorem dL_law_1403 : decode cL_law 1403 = .ok (.dstore 7, 2) := by decide +kernel
theorem dL_law_1405 : decode cL_law 1405 = .ok (.dload 5, 2) := by decide +kernel
theorem dL_law_1407 : decode cL_law 1407 = .ok (.dload 7, 2) := by decide +kernel
theorem dL_law_1409 : decode cL_law 1409 = .ok (.dcmp .l, 1) := by decide +kernel
theorem dL_law_1410 : decode cL_law 1410 = .ok (.ifCond .eq 21, 3) := by decide +kernel
theorem dL_law_1413 : decode cL_law 1413 = .ok (.dload 5, 2) := by decide +kernel
theorem dL_law_1415 : decode cL_law 1415 = .ok (.dload 5, 2) := by decide +kernel
theorem dL_law_1417 : decode cL_law 1417 = .ok (.dcmp .l, 1) := by decide +kernel
theorem dL_law_1418 : decode cL_law 1418 = .ok (.ifCond .eq 11, 3) := by decide +kernel
theorem dL_law_1421 : decode cL_law 1421 = .ok (.dload 7, 2) := by decide +kernel
theorem dL_law_1423 : decode cL_law 1423 = .ok (.dload 7, 2) := by decide +kernel
theorem dL_law_1425 : decode cL_law 1425 = .ok (.dcmp .l, 1) := by decide +kernel
theorem dL_law_1426 : decode cL_law 1426 = .ok (.ifCond .ne 5, 3) := by decide +kernel
theorem dL_law_1429 : decode cL_law 1429 = .ok (.iconst 0, 1) := by decide +kernel
theorem dL_law_1430 : decode cL_law 1430 = .ok (.ireturn, 1) := by decide +kernel
theorem dL_law_1431 : decode cL_law 1431 = .ok (.goto 17, 3) := by decide +kernel
theorem dL_law_1434 : decode cL_law 1434 = .ok (.aload_n 1, 1) := by decide +kernel
theorem dL_law_1435 : decode cL_law 1435 = .ok (.invokevirtual 177, 3) := by decide +kernel
theorem dL_law_1438 : decode cL_law 1438 = .ok (.aload_n 2, 1) := by decide +kernel
theorem dL_law_1439 : decode cL_law 1439 = .ok (.invokevirtual 181, 3) := by decide +kernel
theorem dL_law_1442 : decode cL_law 1442 = .ok (.lcmp, 1) := by decide +kernel
theorem dL_law_1443 : decode cL_law 1443 = .ok (.ifCond .eq 5, 3) := by decide +kernel
theorem dL_law_1446 : decode cL_law 1446 = .ok (.iconst 0, 1) := by decide +kernel
theorem dL_law_1447 : decode cL_law 1447 = .ok (.ireturn, 1) := by decide +kernel
theorem dL_law_1448 : decode cL_law 1448 = .ok (.iinc 4 4, 3) := by decide +kernel
theorem dL_law_1451 : decode cL_law 1451 = .ok (.goto (-1428), 3) := by decide +kernel
theorem dL_law_1454 : decode cL_law 1454 = .ok (.iconst 1, 1) := by decide +kernel
theorem dL_law_1455 : decode cL_law 1455 = .ok (.ireturn, 1) := by decide +kernel
end
section
/-! The bundled judgment: all that a walk knows of the heap is the list of cells ws, of the locals the list lv; words: the law's list for every method. -/
theorem aw_gin {ws : List Cond} (h : ∀ w ∈ ws, w ∈ zAW) : GoodIn zAW ws := fun w hw => ⟨h w hw, good_of_word (List.mem_filter.mp (h w hw)).2⟩
theorem aw_cd {cd : Cond} (h5 : cd ∈ zAW) : GoodIn zAW (cd :: zAW) := aw_gin (fun w hw => by
  rcases List.mem_cons.mp hw with h | h
  · exact h ▸ h5
  · exact h)
theorem aw_V {own C : String} {idx : Nat} {y : MethodName} {cd : Cond} (h1 : Cond.methodLink own idx y ∈ zAW) (h2 : Cond.instanceMethod y ∈ zAW) (h3 : Cond.selects C y y ∈ zAW) (h4 : Cond.initialized C ∈ zAW) (h5 : cd ∈ zAW) : GoodIn zAW (wsV own idx C y (cd :: zAW)) := aw_gin (fun w hw => by
  unfold wsV at hw
  simp only [List.cons_append, List.nil_append, List.mem_cons] at hw
  rcases hw with h | h | h | h | h | h
  · exact h ▸ h1
  · exact h ▸ h2
  · exact h ▸ h3
  · exact h ▸ h4
  · exact h ▸ h5
  · exact h)
theorem aw_S {own : String} {idx : Nat} {y : MethodName} {cd : Cond} (h1 : Cond.methodLink own idx y ∈ zAW) (h2 : Cond.static y ∈ zAW) (h4 : Cond.initialized y.cls ∈ zAW) (h5 : cd ∈ zAW) : GoodIn zAW (va_wsS own idx y (cd :: zAW)) := aw_gin (fun w hw => by
  unfold va_wsS at hw
  simp only [List.cons_append, List.nil_append, List.mem_cons] at hw
  rcases hw with h | h | h | h | h
  · exact h ▸ h1
  · exact h ▸ h2
  · exact h ▸ h4
  · exact h ▸ h5
  · exact h)
/-- words that a run keeps, but that are not handed on by lists: private members of nest mates, casts, declared methods, texts -/
def zNW : List Cond := [.methodLinkNest RX2 18 yX0_init RX2, .methodLinkNest RX1 18 yX2_standIn RX2, .methodLinkNest RX1 22 yX2_clayIn RX2, .methodLinkNest RX0 57 yX2_clayIn RX2]
def zCW : List String := ["java/lang/IllegalArgumentException", "java/lang/IndexOutOfBoundsException", "java/lang/IllegalStateException"]
def zDW : List MethodName := [⟨"java/lang/RuntimeException", "<init>", "()V"⟩, ⟨"java/lang/RuntimeException", "<init>", "(Ljava/lang/String;)V"⟩, ⟨"java/lang/Exception", "<init>", "()V"⟩, ⟨"java/lang/Exception", "<init>", "(Ljava/lang/String;)V"⟩, ⟨"java/lang/Throwable", "<init>", "()V"⟩, ⟨"java/lang/Throwable", "<init>", "(Ljava/lang/String;)V"⟩]
def zSW : List (Nat × String) := [(215, "turns is not 1 to 50"), (211, "stand is not 0 to 4"), (87, "clay is not 0 to 4"), (213, "there is no such gun"), (28, "swing is not 5 to 60"), (33, "steadiness is not 1 to 9"), (41, "there are 6 guns"), (52, "base is not -45 to 45"), (54, "spread is not 0 to 45"), (79, "there are no guns")]
def zN (U : State) : Prop := (∀ w ∈ zNW, va_Nw w U) ∧ (∀ C ∈ zCW, va_Nw (.castable C C) U) ∧ (∀ x ∈ zDW, va_Nw (.declares x) U) ∧ ∀ q ∈ zSW, ∃ a : Nat, vk_R RX2 q.1 q.2 a U
theorem zN_same {u U : State} (hv : u.vm = U.vm) (h : zN u) : zN U := by
  obtain ⟨h1, h2, h3, h4⟩ := h
  refine ⟨fun w hw => va_Nw.same ?_ hv (h1 w hw), fun C hC => va_Nw.same rfl hv (h2 C hC), fun x hx => va_Nw.same rfl hv (h3 x hx), fun q hq => ?_⟩
  · simp only [zNW, List.mem_cons, List.not_mem_nil, or_false] at hw
    rcases hw with rfl | rfl | rfl | rfl <;> rfl
  · obtain ⟨a, ha⟩ := h4 q hq
    exact ⟨a, ha.same hv.symm⟩
theorem zN_warm {s U : State} (hW : s.WarmedH U.vm) (h : zN s) : zN U := by
  obtain ⟨h1, h2, h3, h4⟩ := h
  refine ⟨fun w hw => ?_, fun C hC => va_Nw.warmC hW (h2 C hC), fun x hx => va_Nw.warmD hW (h3 x hx), fun q hq => ?_⟩
  · have h9 := h1 w hw
    simp only [zNW, List.mem_cons, List.not_mem_nil, or_false] at hw
    rcases hw with rfl | rfl | rfl | rfl <;> exact va_Nw.warmM hW h9
  · obtain ⟨a, ha⟩ := h4 q hq
    exact ⟨a, ha.warm hW⟩
/-- the statics of Throwable, outside of what is written -/
def zT (A : Nat → Prop) (U : State) (H : Heap) : Prop := vx_Zq Bundle.tN "UNASSIGNED_STACK" Bundle.steD A U H ∧ vx_Zq Bundle.tN "SUPPRESSED_SENTINEL" Bundle.listD A U H
/-- what stays through a walk -/
def Cx (p : Program) (s : State) (m : MethodId) (args : Array Value) (c : Code) (cc : ByteArray) (nL : Nat) (own : String) (G : va_G) (tys : List (ClassId × FieldType)) (A : Nat → Prop) : Prop :=
  p.tables.exec = Jvm.exec ∧ c.code = cc ∧ c.maxLocals = nL ∧ s.vm.findClass own = some m.cls ∧ (∀ w ∈ zAW, w.before args s = true) ∧ va_K G vwCl tys s ∧ (∀ q : Nat, s.heap.size ≤ q → A q) ∧ zN s ∧ zT A s s.heap
/-- the judgment -/
def ZZ (p : Program) (l : Launch) (e : Env) (R : Room) (s : State) (m : MethodId) (args : Array Value) (below : List Frame) (meth : Method) (c : Code) (G : va_G) (A : Nat → Prop) (nL cells slots : Nat) (Q : State → Prop) (ws : va_W) (lv : List (Nat × Value)) (pc : Nat) (st : List Value) : Prop :=
  ∀ (H : Heap) (locs : List Loc) (ls : Array Slot), va_P G vwCl ws H → va_D A ws → va_S A s.heap H locs → lv_has ls nL lv → W p l e R s m args below meth c H locs cells slots Q (F0 m pc ls st)
/-- a world, at the start of a method -/
def cW (G : va_G) (tys : List (ClassId × FieldType)) (sz : Nat) (W0 : va_W) (U : State) : Prop := U.heap.size = sz ∧ va_P G vwCl W0 U.heap ∧ va_K G vwCl tys U ∧ va_D (fun _ => True) W0 ∧ zN U ∧ zT (va_A W0 sz) U U.heap
/-- a world, at its end -/
def cE (G : va_G) (tys : List (ClassId × FieldType)) (A : Nat → Prop) (W1 : va_W) (t : State) : Prop := va_P G vwCl W1 t.heap ∧ va_K G vwCl tys t ∧ va_D A W1
theorem cW_moved {G : va_G} {tys : List (ClassId × FieldType)} {sz : Nat} {W0 : va_W} {U : State} {g : JFrame} {mk : MethodId} {a : Array Value} (h : cW G tys sz W0 U) : cW G tys sz W0 (U.calling g mk a) := by
  obtain ⟨q1, qP, qK, qD, qN, qT⟩ := h
  exact ⟨q1, qP, va_K.moved (u := U) (U := U.calling g mk a) (Vm.Alike.refl U.vm) qK, qD, zN_same (u := U) (U := U.calling g mk a) rfl qN, vx_Zq.moved (u := U) (U := U.calling g mk a) (Vm.Alike.refl U.vm) qT.1, vx_Zq.moved (u := U) (U := U.calling g mk a) (Vm.Alike.refl U.vm) qT.2⟩
theorem zT_to {A B : Nat → Prop} {s U : State} {H : Heap} {locs : List Loc} (hW : s.WarmedH U.vm) (hU : U.heap = H) (hS : va_S A s.heap H locs) (hF : ∀ q, B q → A q) (h : zT A s s.heap) : zT B U U.heap := by
  rw [hU]
  exact ⟨vx_Zq.moved hW.alike ((h.1.kept hS.2.1).narrow hF), vx_Zq.moved hW.alike ((h.2.kept hS.2.1).narrow hF)⟩
/-- contracts: a method that answers an int, a long, a double, nothing; S: what is told of the world behind it -/
def MI (S : Type) (l : Launch) (y : MethodName) (cy : ByteArray) (nl fr lo : Nat) (G : va_G) (tys : List (ClassId × FieldType)) (av : List Value) (W0 : va_W) (post : Int32 → S → Prop) (W1 : S → va_W) (mc ms : Nat) : Prop :=
  ∀ sz : Nat, Met l y (.code y cy nl (some .int) :: zAW) { frames := fr, cells := mc, slots := ms, locals := lo } (va_Pc av (cW G tys sz W0)) (va_Qi post (fun u => cE G tys (va_A W0 sz) (W1 u)) (va_A W0 sz)) mc ms (va_A W0 sz)
def MB (S : Type) (l : Launch) (y : MethodName) (cy : ByteArray) (nl fr lo : Nat) (G : va_G) (tys : List (ClassId × FieldType)) (av : List Value) (W0 : va_W) (post : Int32 → S → Prop) (W1 : S → va_W) (mc ms : Nat) : Prop :=
  ∀ sz : Nat, Met l y (.code y cy nl (some .boolean) :: zAW) { frames := fr, cells := mc, slots := ms, locals := lo } (va_Pc av (cW G tys sz W0)) (va_Qi post (fun u => cE G tys (va_A W0 sz) (W1 u)) (va_A W0 sz)) mc ms (va_A W0 sz)
def ML (S : Type) (l : Launch) (y : MethodName) (cy : ByteArray) (nl fr lo : Nat) (G : va_G) (tys : List (ClassId × FieldType)) (av : List Value) (W0 : va_W) (post : Int64 → S → Prop) (W1 : S → va_W) (mc ms : Nat) : Prop :=
  ∀ sz : Nat, Met l y (.code y cy nl (some .long) :: zAW) { frames := fr, cells := mc, slots := ms, locals := lo } (va_Pc av (cW G tys sz W0)) (va_Ql post (fun u => cE G tys (va_A W0 sz) (W1 u)) (va_A W0 sz)) mc ms (va_A W0 sz)
def MD (S : Type) (l : Launch) (y : MethodName) (cy : ByteArray) (nl fr lo : Nat) (G : va_G) (tys : List (ClassId × FieldType)) (av : List Value) (W0 : va_W) (post : UInt64 → S → Prop) (W1 : S → va_W) (mc ms : Nat) : Prop :=
  ∀ sz : Nat, Met l y (.code y cy nl (some .double) :: zAW) { frames := fr, cells := mc, slots := ms, locals := lo } (va_Pc av (cW G tys sz W0)) (va_Qd post (fun u => cE G tys (va_A W0 sz) (W1 u)) (va_A W0 sz)) mc ms (va_A W0 sz)
def MV (S : Type) (l : Launch) (y : MethodName) (cy : ByteArray) (nl fr lo : Nat) (G : va_G) (tys : List (ClassId × FieldType)) (av : List Value) (W0 : va_W) (post : S → Prop) (W1 : S → va_W) (mc ms : Nat) : Prop :=
  ∀ sz : Nat, Met l y (.code y cy nl none :: zAW) { frames := fr, cells := mc, slots := ms, locals := lo } (va_Pc av (cW G tys sz W0)) (va_Qv post (fun u => cE G tys (va_A W0 sz) (W1 u)) (va_A W0 sz)) mc ms (va_A W0 sz)
theorem wmap_at {is : List Nat} {ws w : va_W} (hs : is.map (fun i => ws[i]?) = w.map some) (k : Nat) (q : Nat × va_E) (hq : w[k]? = some q) : ∃ i, is[k]? = some i ∧ ws[i]? = some q := by
  have h1 : (is.map (fun i => ws[i]?))[k]? = some (some q) := by rw [hs, List.getElem?_map, hq]; rfl
  rw [List.getElem?_map] at h1
  cases hi : is[k]? with
  | none => rw [hi] at h1; cases h1
  | some i => rw [hi] at h1; exact ⟨i, rfl, Option.some.inj h1⟩
theorem wmap_ta {is : List Nat} {ws w : va_W} (hs : is.map (fun i => ws[i]?) = w.map some) (k i : Nat) (hi : is[k]? = some i) : ∃ q, w[k]? = some q ∧ ws[i]? = some q := by
  have h1 : (is.map (fun i => ws[i]?))[k]? = some (ws[i]?) := by rw [List.getElem?_map, hi]; rfl
  rw [hs, List.getElem?_map] at h1
  cases hw : w[k]? with
  | none => rw [hw] at h1; cases h1
  | some q => rw [hw] at h1; exact ⟨q, rfl, (Option.some.inj h1).symm⟩
theorem wmap_P {G : va_G} {is : List Nat} {ws w : va_W} {H : Heap} (h : va_P G vwCl ws H) (hs : is.map (fun i => ws[i]?) = w.map some) : va_P G vwCl w H := by
  intro k q hk
  obtain ⟨i, -, hi⟩ := wmap_at hs k q hk
  exact h i q hi
/-- a world's cell is the callee's, or an old one -/
theorem wget_of {ws w2 W1 : va_W} {is js : List Nat} (hA : is.map (fun i => w2[i]?) = W1.map some) (hB : js.map (fun i => w2[i]?) = js.map (fun i => ws[i]?)) (hcv : (List.range w2.length).all (fun k => is.contains k || js.contains k) = true) (k : Nat) (q : Nat × va_E) (h : w2[k]? = some q) : (∃ j : Nat, is[j]? = some k ∧ W1[j]? = some q) ∨ (k ∉ is ∧ ws[k]? = some q) := by
  have hk : k < w2.length := (List.getElem?_eq_some_iff.mp h).1
  have h1 := List.all_eq_true.mp hcv k (List.mem_range.mpr hk)
  by_cases hi : k ∈ is
  · obtain ⟨j, hj⟩ := List.getElem?_of_mem hi
    obtain ⟨q', h2, h3⟩ := wmap_ta hA j k hj
    rw [h] at h3
    cases h3
    exact Or.inl ⟨j, hj, h2⟩
  · have hjs : k ∈ js := by
      rcases Bool.or_eq_true _ _ ▸ h1 with h2 | h2
      · exact absurd (List.contains_iff_mem.mp h2) hi
      · exact List.contains_iff_mem.mp h2
    obtain ⟨j, hj⟩ := List.getElem?_of_mem hjs
    have h4 : (js.map (fun i => w2[i]?))[j]? = (js.map (fun i => ws[i]?))[j]? := by rw [hB]
    rw [List.getElem?_map, List.getElem?_map, hj] at h4
    have h5 : w2[k]? = ws[k]? := Option.some.inj h4
    exact Or.inr ⟨hi, h5 ▸ h⟩
/-- behind a call: the callee's cells at their places, the rest unchanged -/
theorem wput_ok {G : va_G} {A : Nat → Prop} {ws w2 W0 W1 : va_W} {H H1 : Heap} {is : List Nat} (hP : va_P G vwCl ws H) (hD : va_D A ws) (hC : is.map (fun i => ws[i]?) = W0.map some) (hadr : W1.map Prod.fst = W0.map Prod.fst) (hg : ∀ (k : Nat) (q : Nat × va_E), w2[k]? = some q → (∃ j : Nat, is[j]? = some k ∧ W1[j]? = some q) ∨ (k ∉ is ∧ ws[k]? = some q))
    (hk : ∀ q : Nat, q < H.size → ¬ va_A W0 H.size q → H1[q]? = H[q]?) (hP1 : va_P G vwCl W1 H1) : va_P G vwCl w2 H1 ∧ va_D A w2 := by
  have adr : ∀ (k : Nat) (q : Nat × va_E), w2[k]? = some q → ∃ q0, ws[k]? = some q0 ∧ q0.1 = q.1 := by
    intro k q hq
    rcases hg k q hq with ⟨j, hj, hq1⟩ | ⟨-, hq1⟩
    · obtain ⟨q0, h0, h0'⟩ := wmap_ta hC j k hj
      refine ⟨q0, h0', ?_⟩
      have e1 : (W1.map Prod.fst)[j]? = some q.1 := by rw [List.getElem?_map, hq1]; rfl
      have e0 : (W0.map Prod.fst)[j]? = some q0.1 := by rw [List.getElem?_map, h0]; rfl
      rw [hadr, e0] at e1
      exact Option.some.inj e1
    · exact ⟨q, hq1, rfl⟩
  refine ⟨fun k q hq => ?_, fun i j x y hi hj hxy => ?_, fun k q hq => ?_⟩
  · rcases hg k q hq with ⟨j, hj, hq1⟩ | ⟨hn, hq1⟩
    · exact hP1 j q hq1
    · have hl := (hP k q hq1).lt
      refine (hP k q hq1).kept (hk q.1 hl fun h => ?_)
      rcases h with ⟨k2, e, h⟩ | h
      · obtain ⟨j, h3, h4⟩ := wmap_at hC k2 (q.1, e) h
        have hij := hD.1 k j q (q.1, e) hq1 h4 rfl
        subst hij
        exact hn (List.mem_of_getElem? h3)
      · exact absurd hl (Nat.not_lt.mpr h)
  · obtain ⟨x0, h1, h2⟩ := adr i x hi
    obtain ⟨y0, h3, h4⟩ := adr j y hj
    exact hD.1 i j x0 y0 h1 h3 (h2.trans (hxy.trans h4.symm))
  · obtain ⟨q0, h1, h2⟩ := adr k q hq
    rw [← h2]
    exact hD.2 k q0 h1
section ZR
variable {p : Program} {l : Launch} {e : Env} {R : Room} {s : State} {m : MethodId} {args : Array Value} {below : List Frame} {meth : Method} {c : Code} {cc : ByteArray} {nL : Nat} {own : String} {G : va_G} {tys : List (ClassId × FieldType)} {A : Nat → Prop} {cells slots : Nat} {Q : State → Prop}
variable {ws : va_W} {lv : List (Nat × Value)} {pc n : Nat} {rest : List Value}

theorem z_iconst (hC : Cx p s m args c cc nL own G tys A) {z : Int} {v : Int32} (hdg : decode cc pc = .ok (.iconst z, 1)) (hv : Int32.ofInt z = v) (hn : pc + 1 = n) (k : ZZ p l e R s m args below meth c G A nL cells slots Q ws lv n (.int v :: rest)) : ZZ p l e R s m args below meth c G A nL cells slots Q ws lv pc (rest) := by
  subst hn
  exact fun H locs ls hP hD hS hl => lv_iconst hC.1 hC.2.1 hdg hv (k H locs ls hP hD hS hl)
theorem z_bipush (hC : Cx p s m args c cc nL own G tys A) {z : Int} {v : Int32} (hdg : decode cc pc = .ok (.bipush z, 2)) (hv : (Int8.ofInt z).toInt32 = v) (hn : pc + 2 = n) (k : ZZ p l e R s m args below meth c G A nL cells slots Q ws lv n (.int v :: rest)) : ZZ p l e R s m args below meth c G A nL cells slots Q ws lv pc (rest) := by
  subst hn
  exact fun H locs ls hP hD hS hl => lv_bipush hC.1 hC.2.1 hdg hv (k H locs ls hP hD hS hl)
theorem z_sipush (hC : Cx p s m args c cc nL own G tys A) {z : Int} {v : Int32} (hdg : decode cc pc = .ok (.sipush z, 3)) (hv : (Int16.ofInt z).toInt32 = v) (hn : pc + 3 = n) (k : ZZ p l e R s m args below meth c G A nL cells slots Q ws lv n (.int v :: rest)) : ZZ p l e R s m args below meth c G A nL cells slots Q ws lv pc (rest) := by
  subst hn
  exact fun H locs ls hP hD hS hl => lv_sipush hC.1 hC.2.1 hdg hv (k H locs ls hP hD hS hl)
theorem z_iload_n (hC : Cx p s m args c cc nL own G tys A) {f : Fin 4} {i : Nat} {x : Int32} (hdg : decode cc pc = .ok (.iload_n f, 1)) (hi : (f : Nat) = i) (j : Nat) (hj : lv[j]? = some (i, .int x)) (hn : pc + 1 = n) (k : ZZ p l e R s m args below meth c G A nL cells slots Q ws lv n (.int x :: rest)) : ZZ p l e R s m args below meth c G A nL cells slots Q ws lv pc (rest) := by
  subst hn
  exact fun H locs ls hP hD hS hl => lv_iload_n hC.1 hC.2.1 hdg hi (lv_at hl j hj) (k H locs ls hP hD hS hl)
theorem z_iload (hC : Cx p s m args c cc nL own G tys A) {i : Nat} {x : Int32} (hdg : decode cc pc = .ok (.iload i, 2)) (j : Nat) (hj : lv[j]? = some (i, .int x)) (hn : pc + 2 = n) (k : ZZ p l e R s m args below meth c G A nL cells slots Q ws lv n (.int x :: rest)) : ZZ p l e R s m args below meth c G A nL cells slots Q ws lv pc (rest) := by
  subst hn
  exact fun H locs ls hP hD hS hl => lv_iload hC.1 hC.2.1 hdg (lv_at hl j hj) (k H locs ls hP hD hS hl)
theorem z_lload_n (hC : Cx p s m args c cc nL own G tys A) {f : Fin 4} {i : Nat} {x : Int64} (hdg : decode cc pc = .ok (.lload_n f, 1)) (hi : (f : Nat) = i) (j : Nat) (hj : lv[j]? = some (i, .long x)) (hn : pc + 1 = n) (k : ZZ p l e R s m args below meth c G A nL cells slots Q ws lv n (.long x :: rest)) : ZZ p l e R s m args below meth c G A nL cells slots Q ws lv pc (rest) := by
  subst hn
  exact fun H locs ls hP hD hS hl => lv_lload_n hC.1 hC.2.1 hdg hi (lv_at hl j hj) (k H locs ls hP hD hS hl)
theorem z_aload_n (hC : Cx p s m args c cc nL own G tys A) {f : Fin 4} {i : Nat} {x : Nat} (hdg : decode cc pc = .ok (.aload_n f, 1)) (hi : (f : Nat) = i) (j : Nat) (hj : lv[j]? = some (i, .ref x)) (hn : pc + 1 = n) (k : ZZ p l e R s m args below meth c G A nL cells slots Q ws lv n (.ref x :: rest)) : ZZ p l e R s m args below meth c G A nL cells slots Q ws lv pc (rest) := by
  subst hn
  exact fun H locs ls hP hD hS hl => lv_aload_n hC.1 hC.2.1 hdg hi (lv_at hl j hj) (k H locs ls hP hD hS hl)
theorem z_aload (hC : Cx p s m args c cc nL own G tys A) {i : Nat} {x : Nat} (hdg : decode cc pc = .ok (.aload i, 2)) (j : Nat) (hj : lv[j]? = some (i, .ref x)) (hn : pc + 2 = n) (k : ZZ p l e R s m args below meth c G A nL cells slots Q ws lv n (.ref x :: rest)) : ZZ p l e R s m args below meth c G A nL cells slots Q ws lv pc (rest) := by
  subst hn
  exact fun H locs ls hP hD hS hl => lv_aload hC.1 hC.2.1 hdg (lv_at hl j hj) (k H locs ls hP hD hS hl)
theorem z_dload (hC : Cx p s m args c cc nL own G tys A) {i : Nat} {x : UInt64} (hdg : decode cc pc = .ok (.dload i, 2)) (j : Nat) (hj : lv[j]? = some (i, .double x)) (hn : pc + 2 = n) (k : ZZ p l e R s m args below meth c G A nL cells slots Q ws lv n (.double x :: rest)) : ZZ p l e R s m args below meth c G A nL cells slots Q ws lv pc (rest) := by
  subst hn
  exact fun H locs ls hP hD hS hl => lv_dload hC.1 hC.2.1 hdg (lv_at hl j hj) (k H locs ls hP hD hS hl)
theorem z_istore_n (hC : Cx p s m args c cc nL own G tys A) {f : Fin 4} {i : Nat} {x : Int32} {lv' : List (Nat × Value)} (hdg : decode cc pc = .ok (.istore_n f, 1)) (hi : (f : Nat) = i) (hr : i < nL) (hl9 : (i, Value.int x) :: lv.filter (fun q => !(q.1 == i) && !(q.1 + 1 == i && q.2.category == 2)) = lv') (hn : pc + 1 = n) (k : ZZ p l e R s m args below meth c G A nL cells slots Q ws lv' n rest) : ZZ p l e R s m args below meth c G A nL cells slots Q ws lv pc (.int x :: rest) := by
  subst hn
  exact fun H locs ls hP hD hS hl => lv_istore_n hC.1 hC.2.1 hdg hi hl hr hl9 (fun ls' hl' => k H locs ls' hP hD hS hl')
theorem z_istore (hC : Cx p s m args c cc nL own G tys A) {i : Nat} {x : Int32} {lv' : List (Nat × Value)} (hdg : decode cc pc = .ok (.istore i, 2)) (hr : i < nL) (hl9 : (i, Value.int x) :: lv.filter (fun q => !(q.1 == i) && !(q.1 + 1 == i && q.2.category == 2)) = lv') (hn : pc + 2 = n) (k : ZZ p l e R s m args below meth c G A nL cells slots Q ws lv' n rest) : ZZ p l e R s m args below meth c G A nL cells slots Q ws lv pc (.int x :: rest) := by
  subst hn
  exact fun H locs ls hP hD hS hl => lv_istore hC.1 hC.2.1 hdg hl hr hl9 (fun ls' hl' => k H locs ls' hP hD hS hl')
theorem z_astore_n (hC : Cx p s m args c cc nL own G tys A) {f : Fin 4} {i : Nat} {x : Nat} {lv' : List (Nat × Value)} (hdg : decode cc pc = .ok (.astore_n f, 1)) (hi : (f : Nat) = i) (hr : i < nL) (hl9 : (i, Value.ref x) :: lv.filter (fun q => !(q.1 == i) && !(q.1 + 1 == i && q.2.category == 2)) = lv') (hn : pc + 1 = n) (k : ZZ p l e R s m args below meth c G A nL cells slots Q ws lv' n rest) : ZZ p l e R s m args below meth c G A nL cells slots Q ws lv pc (.ref x :: rest) := by
  subst hn
  exact fun H locs ls hP hD hS hl => lv_astore_n hC.1 hC.2.1 hdg hi hl hr hl9 (fun ls' hl' => k H locs ls' hP hD hS hl')
theorem z_astore (hC : Cx p s m args c cc nL own G tys A) {i : Nat} {x : Nat} {lv' : List (Nat × Value)} (hdg : decode cc pc = .ok (.astore i, 2)) (hr : i < nL) (hl9 : (i, Value.ref x) :: lv.filter (fun q => !(q.1 == i) && !(q.1 + 1 == i && q.2.category == 2)) = lv') (hn : pc + 2 = n) (k : ZZ p l e R s m args below meth c G A nL cells slots Q ws lv' n rest) : ZZ p l e R s m args below meth c G A nL cells slots Q ws lv pc (.ref x :: rest) := by
  subst hn
  exact fun H locs ls hP hD hS hl => lv_astore hC.1 hC.2.1 hdg hl hr hl9 (fun ls' hl' => k H locs ls' hP hD hS hl')
theorem z_lstore_n (hC : Cx p s m args c cc nL own G tys A) {f : Fin 4} {i : Nat} {x : Int64} {lv' : List (Nat × Value)} (hdg : decode cc pc = .ok (.lstore_n f, 1)) (hi : (f : Nat) = i) (hr : i + 1 < nL) (hl9 : (i, Value.long x) :: lv.filter (fun q => !(q.1 == i) && (!(q.1 == i + 1) && !(q.1 + 1 == i && q.2.category == 2))) = lv') (hn : pc + 1 = n) (k : ZZ p l e R s m args below meth c G A nL cells slots Q ws lv' n rest) : ZZ p l e R s m args below meth c G A nL cells slots Q ws lv pc (.long x :: rest) := by
  subst hn
  exact fun H locs ls hP hD hS hl => lv_lstore_n hC.1 hC.2.1 hdg hi hl hr hl9 (fun ls' hl' => k H locs ls' hP hD hS hl')
theorem z_dstore (hC : Cx p s m args c cc nL own G tys A) {i : Nat} {x : UInt64} {lv' : List (Nat × Value)} (hdg : decode cc pc = .ok (.dstore i, 2)) (hr : i + 1 < nL) (hl9 : (i, Value.double x) :: lv.filter (fun q => !(q.1 == i) && (!(q.1 == i + 1) && !(q.1 + 1 == i && q.2.category == 2))) = lv') (hn : pc + 2 = n) (k : ZZ p l e R s m args below meth c G A nL cells slots Q ws lv' n rest) : ZZ p l e R s m args below meth c G A nL cells slots Q ws lv pc (.double x :: rest) := by
  subst hn
  exact fun H locs ls hP hD hS hl => lv_dstore hC.1 hC.2.1 hdg hl hr hl9 (fun ls' hl' => k H locs ls' hP hD hS hl')
theorem z_iinc (hC : Cx p s m args c cc nL own G tys A) {i k0 : Nat} {z : Int} {x v : Int32} {lv' : List (Nat × Value)} (hdg : decode cc pc = .ok (.iinc i z, 3)) (hk : lv[k0]? = some (i, .int x)) (hv : x + Int32.ofInt z = v) (hr : i < nL) (hl9 : (i, Value.int v) :: lv.filter (fun q => !(q.1 == i) && !(q.1 + 1 == i && q.2.category == 2)) = lv') (hn : pc + 3 = n) (k : ZZ p l e R s m args below meth c G A nL cells slots Q ws lv' n rest) : ZZ p l e R s m args below meth c G A nL cells slots Q ws lv pc rest := by
  subst hn
  exact fun H locs ls hP hD hS hl => lv_iinc hC.1 hC.2.1 hdg hl hk hv hr hl9 (fun ls' hl' => k H locs ls' hP hD hS hl')
theorem z_iadd (hC : Cx p s m args c cc nL own G tys A) {x y v : Int32} (hdg : decode cc pc = .ok (.iadd, 1)) (hv : x + y = v) (hn : pc + 1 = n) (k : ZZ p l e R s m args below meth c G A nL cells slots Q ws lv n (.int v :: rest)) : ZZ p l e R s m args below meth c G A nL cells slots Q ws lv pc (.int y :: .int x :: rest) := by
  subst hn; subst hv
  exact fun H locs ls hP hD hS hl => lv_iadd hC.1 hC.2.1 hdg (k H locs ls hP hD hS hl)
theorem z_isub (hC : Cx p s m args c cc nL own G tys A) {x y v : Int32} (hdg : decode cc pc = .ok (.isub, 1)) (hv : x - y = v) (hn : pc + 1 = n) (k : ZZ p l e R s m args below meth c G A nL cells slots Q ws lv n (.int v :: rest)) : ZZ p l e R s m args below meth c G A nL cells slots Q ws lv pc (.int y :: .int x :: rest) := by
  subst hn; subst hv
  exact fun H locs ls hP hD hS hl => lv_isub hC.1 hC.2.1 hdg (k H locs ls hP hD hS hl)
theorem z_imul (hC : Cx p s m args c cc nL own G tys A) {x y v : Int32} (hdg : decode cc pc = .ok (.imul, 1)) (hv : x * y = v) (hn : pc + 1 = n) (k : ZZ p l e R s m args below meth c G A nL cells slots Q ws lv n (.int v :: rest)) : ZZ p l e R s m args below meth c G A nL cells slots Q ws lv pc (.int y :: .int x :: rest) := by
  subst hn; subst hv
  exact fun H locs ls hP hD hS hl => lv_imul hC.1 hC.2.1 hdg (k H locs ls hP hD hS hl)
theorem z_iand (hC : Cx p s m args c cc nL own G tys A) {x y v : Int32} (hdg : decode cc pc = .ok (.iand, 1)) (hv : x &&& y = v) (hn : pc + 1 = n) (k : ZZ p l e R s m args below meth c G A nL cells slots Q ws lv n (.int v :: rest)) : ZZ p l e R s m args below meth c G A nL cells slots Q ws lv pc (.int y :: .int x :: rest) := by
  subst hn; subst hv
  exact fun H locs ls hP hD hS hl => lv_iand hC.1 hC.2.1 hdg (k H locs ls hP hD hS hl)
theorem z_ior (hC : Cx p s m args c cc nL own G tys A) {x y v : Int32} (hdg : decode cc pc = .ok (.ior, 1)) (hv : x ||| y = v) (hn : pc + 1 = n) (k : ZZ p l e R s m args below meth c G A nL cells slots Q ws lv n (.int v :: rest)) : ZZ p l e R s m args below meth c G A nL cells slots Q ws lv pc (.int y :: .int x :: rest) := by
  subst hn; subst hv
  exact fun H locs ls hP hD hS hl => lv_ior hC.1 hC.2.1 hdg (k H locs ls hP hD hS hl)
theorem z_ixor (hC : Cx p s m args c cc nL own G tys A) {x y v : Int32} (hdg : decode cc pc = .ok (.ixor, 1)) (hv : x ^^^ y = v) (hn : pc + 1 = n) (k : ZZ p l e R s m args below meth c G A nL cells slots Q ws lv n (.int v :: rest)) : ZZ p l e R s m args below meth c G A nL cells slots Q ws lv pc (.int y :: .int x :: rest) := by
  subst hn; subst hv
  exact fun H locs ls hP hD hS hl => lv_ixor hC.1 hC.2.1 hdg (k H locs ls hP hD hS hl)
theorem z_ishl (hC : Cx p s m args c cc nL own G tys A) {x y v : Int32} (hdg : decode cc pc = .ok (.ishl, 1)) (hv : x <<< (y &&& 31) = v) (hn : pc + 1 = n) (k : ZZ p l e R s m args below meth c G A nL cells slots Q ws lv n (.int v :: rest)) : ZZ p l e R s m args below meth c G A nL cells slots Q ws lv pc (.int y :: .int x :: rest) := by
  subst hn; subst hv
  exact fun H locs ls hP hD hS hl => lv_ishl hC.1 hC.2.1 hdg (k H locs ls hP hD hS hl)
theorem z_ishr (hC : Cx p s m args c cc nL own G tys A) {x y v : Int32} (hdg : decode cc pc = .ok (.ishr, 1)) (hv : x >>> (y &&& 31) = v) (hn : pc + 1 = n) (k : ZZ p l e R s m args below meth c G A nL cells slots Q ws lv n (.int v :: rest)) : ZZ p l e R s m args below meth c G A nL cells slots Q ws lv pc (.int y :: .int x :: rest) := by
  subst hn; subst hv
  exact fun H locs ls hP hD hS hl => lv_ishr hC.1 hC.2.1 hdg (k H locs ls hP hD hS hl)
theorem z_idiv (hC : Cx p s m args c cc nL own G tys A) {x y v : Int32} (hdg : decode cc pc = .ok (.idiv, 1)) (hne : ¬ y = 0) (hv : x / y = v) (hn : pc + 1 = n) (k : ZZ p l e R s m args below meth c G A nL cells slots Q ws lv n (.int v :: rest)) : ZZ p l e R s m args below meth c G A nL cells slots Q ws lv pc (.int y :: .int x :: rest) := by
  subst hn; subst hv
  exact fun H locs ls hP hD hS hl => lv_idiv hC.1 hC.2.1 hdg hne (k H locs ls hP hD hS hl)
theorem z_irem (hC : Cx p s m args c cc nL own G tys A) {x y v : Int32} (hdg : decode cc pc = .ok (.irem, 1)) (hne : ¬ y = 0) (hv : x - x / y * y = v) (hn : pc + 1 = n) (k : ZZ p l e R s m args below meth c G A nL cells slots Q ws lv n (.int v :: rest)) : ZZ p l e R s m args below meth c G A nL cells slots Q ws lv pc (.int y :: .int x :: rest) := by
  subst hn; subst hv
  exact fun H locs ls hP hD hS hl => lv_irem hC.1 hC.2.1 hdg hne (k H locs ls hP hD hS hl)
theorem z_iushr (hC : Cx p s m args c cc nL own G tys A) {x y v : Int32} (hdg : decode cc pc = .ok (.iushr, 1)) (hv : (x.toUInt32 >>> (y.toUInt32 &&& Int32.toUInt32 31)).toInt32 = v) (hn : pc + 1 = n) (k : ZZ p l e R s m args below meth c G A nL cells slots Q ws lv n (.int v :: rest)) : ZZ p l e R s m args below meth c G A nL cells slots Q ws lv pc (.int y :: .int x :: rest) := by
  subst hn
  exact fun H locs ls hP hD hS hl => lv_iushr hC.1 hC.2.1 hdg hv (k H locs ls hP hD hS hl)
theorem z_ineg (hC : Cx p s m args c cc nL own G tys A) {x v : Int32} (hdg : decode cc pc = .ok (.ineg, 1)) (hv : -x = v) (hn : pc + 1 = n) (k : ZZ p l e R s m args below meth c G A nL cells slots Q ws lv n (.int v :: rest)) : ZZ p l e R s m args below meth c G A nL cells slots Q ws lv pc (.int x :: rest) := by
  subst hn; subst hv
  exact fun H locs ls hP hD hS hl => lv_ineg hC.1 hC.2.1 hdg (k H locs ls hP hD hS hl)
theorem z_ladd (hC : Cx p s m args c cc nL own G tys A) {x y : Int64} (hdg : decode cc pc = .ok (.ladd, 1))  (hn : pc + 1 = n) (k : ZZ p l e R s m args below meth c G A nL cells slots Q ws lv n (.long (x + y) :: rest)) : ZZ p l e R s m args below meth c G A nL cells slots Q ws lv pc (.long y :: .long x :: rest) := by
  subst hn
  exact fun H locs ls hP hD hS hl => lv_ladd hC.1 hC.2.1 hdg (k H locs ls hP hD hS hl)
theorem z_lmul (hC : Cx p s m args c cc nL own G tys A) {x y : Int64} (hdg : decode cc pc = .ok (.lmul, 1))  (hn : pc + 1 = n) (k : ZZ p l e R s m args below meth c G A nL cells slots Q ws lv n (.long (x * y) :: rest)) : ZZ p l e R s m args below meth c G A nL cells slots Q ws lv pc (.long y :: .long x :: rest) := by
  subst hn
  exact fun H locs ls hP hD hS hl => lv_lmul hC.1 hC.2.1 hdg (k H locs ls hP hD hS hl)
theorem z_lcmp (hC : Cx p s m args c cc nL own G tys A) {x y : Int64} (hdg : decode cc pc = .ok (.lcmp, 1))  (hn : pc + 1 = n) (k : ZZ p l e R s m args below meth c G A nL cells slots Q ws lv n (.int (lg_cmp x y) :: rest)) : ZZ p l e R s m args below meth c G A nL cells slots Q ws lv pc (.long y :: .long x :: rest) := by
  subst hn
  exact fun H locs ls hP hD hS hl => W.lcmp hC.1 hC.2.1 hdg (k H locs ls hP hD hS hl)
theorem z_i2l (hC : Cx p s m args c cc nL own G tys A) {x : Int32} {v : Int64} (hdg : decode cc pc = .ok (.i2l, 1)) (hv : x.toInt64 = v) (hn : pc + 1 = n) (k : ZZ p l e R s m args below meth c G A nL cells slots Q ws lv n (.long v :: rest)) : ZZ p l e R s m args below meth c G A nL cells slots Q ws lv pc (.int x :: rest) := by
  subst hn
  exact fun H locs ls hP hD hS hl => lv_i2l hC.1 hC.2.1 hdg hv (k H locs ls hP hD hS hl)
theorem z_i2d (hC : Cx p s m args c cc nL own G tys A) {x : Int32} (hdg : decode cc pc = .ok (.i2d, 1))  (hn : pc + 1 = n) (k : ZZ p l e R s m args below meth c G A nL cells slots Q ws lv n (.double (FP.i2d x) :: rest)) : ZZ p l e R s m args below meth c G A nL cells slots Q ws lv pc (.int x :: rest) := by
  subst hn
  exact fun H locs ls hP hD hS hl => lv_i2d hC.1 hC.2.1 hdg (k H locs ls hP hD hS hl)
theorem z_ddiv (hC : Cx p s m args c cc nL own G tys A) {x y : UInt64} (hdg : decode cc pc = .ok (.ddiv, 1)) (hne : vf_n64 (FP.ddiv x y)) (hn : pc + 1 = n) (k : ZZ p l e R s m args below meth c G A nL cells slots Q ws lv n (.double (FP.ddiv x y) :: rest)) : ZZ p l e R s m args below meth c G A nL cells slots Q ws lv pc (.double y :: .double x :: rest) := by
  subst hn
  exact fun H locs ls hP hD hS hl => lv_ddiv hC.1 hC.2.1 hdg hne (k H locs ls hP hD hS hl)
theorem z_dcmp (hC : Cx p s m args c cc nL own G tys A) {x y : UInt64} {op : CmpOp} (hdg : decode cc pc = .ok (.dcmp op, 1))  (hn : pc + 1 = n) (k : ZZ p l e R s m args below meth c G A nL cells slots Q ws lv n (.int (Op.cmpValue (FP.dcmp x y) op) :: rest)) : ZZ p l e R s m args below meth c G A nL cells slots Q ws lv pc (.double y :: .double x :: rest) := by
  subst hn
  exact fun H locs ls hP hD hS hl => lv_dcmp hC.1 hC.2.1 hdg (k H locs ls hP hD hS hl)
theorem z_dconst0 (hC : Cx p s m args c cc nL own G tys A)  (hdg : decode cc pc = .ok (.dconst 0, 1))  (hn : pc + 1 = n) (k : ZZ p l e R s m args below meth c G A nL cells slots Q ws lv n (.double FP.dconst0 :: rest)) : ZZ p l e R s m args below meth c G A nL cells slots Q ws lv pc (rest) := by
  subst hn
  exact fun H locs ls hP hD hS hl => lv_dconst0 hC.1 hC.2.1 hdg (k H locs ls hP hD hS hl)
theorem z_dup (hC : Cx p s m args c cc nL own G tys A) {va : Value} (hdg : decode cc pc = .ok (.dup, 1)) (hva : va.category = 1) (hn : pc + 1 = n) (k : ZZ p l e R s m args below meth c G A nL cells slots Q ws lv n (va :: va :: rest)) : ZZ p l e R s m args below meth c G A nL cells slots Q ws lv pc (va :: rest) := by
  subst hn
  exact fun H locs ls hP hD hS hl => lv_dup hC.1 hC.2.1 hdg hva (k H locs ls hP hD hS hl)
theorem z_pop (hC : Cx p s m args c cc nL own G tys A) {va : Value} (hdg : decode cc pc = .ok (.pop, 1)) (hva : va.category = 1) (hn : pc + 1 = n) (k : ZZ p l e R s m args below meth c G A nL cells slots Q ws lv n (rest)) : ZZ p l e R s m args below meth c G A nL cells slots Q ws lv pc (va :: rest) := by
  subst hn
  exact fun H locs ls hP hD hS hl => lv_pop hC.1 hC.2.1 hdg hva (k H locs ls hP hD hS hl)
theorem z_dup2 (hC : Cx p s m args c cc nL own G tys A) {va vb : Value} (hdg : decode cc pc = .ok (.dup2, 1)) (hva : va.category = 1) (hvb : vb.category = 1) (hn : pc + 1 = n) (k : ZZ p l e R s m args below meth c G A nL cells slots Q ws lv n (va :: vb :: va :: vb :: rest)) : ZZ p l e R s m args below meth c G A nL cells slots Q ws lv pc (va :: vb :: rest) := by
  subst hn
  exact fun H locs ls hP hD hS hl => lv_dup2_11 hC.1 hC.2.1 hdg hva hvb (k H locs ls hP hD hS hl)
theorem z_goto (hC : Cx p s m args c cc nL own G tys A) {off : Int} (hdg : decode cc pc = .ok (.goto off, 3)) (ht : (pc : Int) + off = (n : Int)) (k : ZZ p l e R s m args below meth c G A nL cells slots Q ws lv n rest) : ZZ p l e R s m args below meth c G A nL cells slots Q ws lv pc rest :=
  fun H locs ls hP hD hS hl => lv_goto hC.1 hC.2.1 hdg ht (k H locs ls hP hD hS hl)
theorem z_if_eq (hC : Cx p s m args c cc nL own G tys A) {x : Int32} {off : Int} {tgt : Nat} (hdg : decode cc pc = .ok (.ifCond .eq off, 3)) (ht : (pc : Int) + off = (tgt : Int)) (hn : pc + 3 = n) (kt : x = 0 → ZZ p l e R s m args below meth c G A nL cells slots Q ws lv tgt rest) (kf : ¬ x = 0 → ZZ p l e R s m args below meth c G A nL cells slots Q ws lv n rest) : ZZ p l e R s m args below meth c G A nL cells slots Q ws lv pc (.int x :: rest) := by
  subst hn
  exact fun H locs ls hP hD hS hl => lv_if_eq hC.1 hC.2.1 hdg ht (fun h => kt h H locs ls hP hD hS hl) (fun h => kf h H locs ls hP hD hS hl)
theorem z_icmp_eq (hC : Cx p s m args c cc nL own G tys A) {x y : Int32} {off : Int} {tgt : Nat} (hdg : decode cc pc = .ok (.if_icmp .eq off, 3)) (ht : (pc : Int) + off = (tgt : Int)) (hn : pc + 3 = n) (kt : x = y → ZZ p l e R s m args below meth c G A nL cells slots Q ws lv tgt rest) (kf : ¬ x = y → ZZ p l e R s m args below meth c G A nL cells slots Q ws lv n rest) : ZZ p l e R s m args below meth c G A nL cells slots Q ws lv pc (.int y :: .int x :: rest) := by
  subst hn
  exact fun H locs ls hP hD hS hl => lv_icmp_eq hC.1 hC.2.1 hdg ht (fun h => kt h H locs ls hP hD hS hl) (fun h => kf h H locs ls hP hD hS hl)
theorem z_icmp_eq_n (hC : Cx p s m args c cc nL own G tys A) {x y : Int32} {off : Int} {tgt : Nat} (a b : Nat) (hx : x = nI a) (hy : y = nI b) (ha : a < 2 ^ 31) (hb : b < 2 ^ 31) (hdg : decode cc pc = .ok (.if_icmp .eq off, 3)) (ht : (pc : Int) + off = (tgt : Int)) (hn : pc + 3 = n) (kt : a = b → ZZ p l e R s m args below meth c G A nL cells slots Q ws lv tgt rest) (kf : ¬ a = b → ZZ p l e R s m args below meth c G A nL cells slots Q ws lv n rest) : ZZ p l e R s m args below meth c G A nL cells slots Q ws lv pc (.int y :: .int x :: rest) := by
  subst hx; subst hy
  exact z_icmp_eq hC hdg ht hn (fun h => kt ((nI_eq ha hb).mp h)) (fun h => kf (fun z => h ((nI_eq ha hb).mpr z)))
theorem z_if_ne (hC : Cx p s m args c cc nL own G tys A) {x : Int32} {off : Int} {tgt : Nat} (hdg : decode cc pc = .ok (.ifCond .ne off, 3)) (ht : (pc : Int) + off = (tgt : Int)) (hn : pc + 3 = n) (kt : ¬ x = 0 → ZZ p l e R s m args below meth c G A nL cells slots Q ws lv tgt rest) (kf : x = 0 → ZZ p l e R s m args below meth c G A nL cells slots Q ws lv n rest) : ZZ p l e R s m args below meth c G A nL cells slots Q ws lv pc (.int x :: rest) := by
  subst hn
  exact fun H locs ls hP hD hS hl => lv_if_ne hC.1 hC.2.1 hdg ht (fun h => kt h H locs ls hP hD hS hl) (fun h => kf h H locs ls hP hD hS hl)
theorem z_icmp_ne (hC : Cx p s m args c cc nL own G tys A) {x y : Int32} {off : Int} {tgt : Nat} (hdg : decode cc pc = .ok (.if_icmp .ne off, 3)) (ht : (pc : Int) + off = (tgt : Int)) (hn : pc + 3 = n) (kt : ¬ x = y → ZZ p l e R s m args below meth c G A nL cells slots Q ws lv tgt rest) (kf : x = y → ZZ p l e R s m args below meth c G A nL cells slots Q ws lv n rest) : ZZ p l e R s m args below meth c G A nL cells slots Q ws lv pc (.int y :: .int x :: rest) := by
  subst hn
  exact fun H locs ls hP hD hS hl => lv_icmp_ne hC.1 hC.2.1 hdg ht (fun h => kt h H locs ls hP hD hS hl) (fun h => kf h H locs ls hP hD hS hl)
theorem z_icmp_ne_n (hC : Cx p s m args c cc nL own G tys A) {x y : Int32} {off : Int} {tgt : Nat} (a b : Nat) (hx : x = nI a) (hy : y = nI b) (ha : a < 2 ^ 31) (hb : b < 2 ^ 31) (hdg : decode cc pc = .ok (.if_icmp .ne off, 3)) (ht : (pc : Int) + off = (tgt : Int)) (hn : pc + 3 = n) (kt : ¬ a = b → ZZ p l e R s m args below meth c G A nL cells slots Q ws lv tgt rest) (kf : a = b → ZZ p l e R s m args below meth c G A nL cells slots Q ws lv n rest) : ZZ p l e R s m args below meth c G A nL cells slots Q ws lv pc (.int y :: .int x :: rest) := by
  subst hx; subst hy
  exact z_icmp_ne hC hdg ht hn (fun h => kt (fun z => h ((nI_eq ha hb).mpr z))) (fun h => kf ((nI_eq ha hb).mp h))
theorem z_if_lt (hC : Cx p s m args c cc nL own G tys A) {x : Int32} {off : Int} {tgt : Nat} (hdg : decode cc pc = .ok (.ifCond .lt off, 3)) (ht : (pc : Int) + off = (tgt : Int)) (hn : pc + 3 = n) (kt : x < 0 → ZZ p l e R s m args below meth c G A nL cells slots Q ws lv tgt rest) (kf : ¬ x < 0 → ZZ p l e R s m args below meth c G A nL cells slots Q ws lv n rest) : ZZ p l e R s m args below meth c G A nL cells slots Q ws lv pc (.int x :: rest) := by
  subst hn
  exact fun H locs ls hP hD hS hl => lv_if_lt hC.1 hC.2.1 hdg ht (fun h => kt h H locs ls hP hD hS hl) (fun h => kf h H locs ls hP hD hS hl)
theorem z_icmp_lt (hC : Cx p s m args c cc nL own G tys A) {x y : Int32} {off : Int} {tgt : Nat} (hdg : decode cc pc = .ok (.if_icmp .lt off, 3)) (ht : (pc : Int) + off = (tgt : Int)) (hn : pc + 3 = n) (kt : x < y → ZZ p l e R s m args below meth c G A nL cells slots Q ws lv tgt rest) (kf : ¬ x < y → ZZ p l e R s m args below meth c G A nL cells slots Q ws lv n rest) : ZZ p l e R s m args below meth c G A nL cells slots Q ws lv pc (.int y :: .int x :: rest) := by
  subst hn
  exact fun H locs ls hP hD hS hl => lv_icmp_lt hC.1 hC.2.1 hdg ht (fun h => kt h H locs ls hP hD hS hl) (fun h => kf h H locs ls hP hD hS hl)
theorem z_icmp_lt_n (hC : Cx p s m args c cc nL own G tys A) {x y : Int32} {off : Int} {tgt : Nat} (a b : Nat) (hx : x = nI a) (hy : y = nI b) (ha : a < 2 ^ 31) (hb : b < 2 ^ 31) (hdg : decode cc pc = .ok (.if_icmp .lt off, 3)) (ht : (pc : Int) + off = (tgt : Int)) (hn : pc + 3 = n) (kt : a < b → ZZ p l e R s m args below meth c G A nL cells slots Q ws lv tgt rest) (kf : b ≤ a → ZZ p l e R s m args below meth c G A nL cells slots Q ws lv n rest) : ZZ p l e R s m args below meth c G A nL cells slots Q ws lv pc (.int y :: .int x :: rest) := by
  subst hx; subst hy
  exact z_icmp_lt hC hdg ht hn (fun h => kt ((nI_ltI ha hb).mp h)) (fun h => kf (Nat.not_lt.mp fun z => h ((nI_ltI ha hb).mpr z)))
theorem z_if_ge (hC : Cx p s m args c cc nL own G tys A) {x : Int32} {off : Int} {tgt : Nat} (hdg : decode cc pc = .ok (.ifCond .ge off, 3)) (ht : (pc : Int) + off = (tgt : Int)) (hn : pc + 3 = n) (kt : 0 ≤ x → ZZ p l e R s m args below meth c G A nL cells slots Q ws lv tgt rest) (kf : ¬ 0 ≤ x → ZZ p l e R s m args below meth c G A nL cells slots Q ws lv n rest) : ZZ p l e R s m args below meth c G A nL cells slots Q ws lv pc (.int x :: rest) := by
  subst hn
  exact fun H locs ls hP hD hS hl => lv_if_ge hC.1 hC.2.1 hdg ht (fun h => kt h H locs ls hP hD hS hl) (fun h => kf h H locs ls hP hD hS hl)
theorem z_icmp_ge (hC : Cx p s m args c cc nL own G tys A) {x y : Int32} {off : Int} {tgt : Nat} (hdg : decode cc pc = .ok (.if_icmp .ge off, 3)) (ht : (pc : Int) + off = (tgt : Int)) (hn : pc + 3 = n) (kt : y ≤ x → ZZ p l e R s m args below meth c G A nL cells slots Q ws lv tgt rest) (kf : ¬ y ≤ x → ZZ p l e R s m args below meth c G A nL cells slots Q ws lv n rest) : ZZ p l e R s m args below meth c G A nL cells slots Q ws lv pc (.int y :: .int x :: rest) := by
  subst hn
  exact fun H locs ls hP hD hS hl => lv_icmp_ge hC.1 hC.2.1 hdg ht (fun h => kt h H locs ls hP hD hS hl) (fun h => kf h H locs ls hP hD hS hl)
theorem z_icmp_ge_n (hC : Cx p s m args c cc nL own G tys A) {x y : Int32} {off : Int} {tgt : Nat} (a b : Nat) (hx : x = nI a) (hy : y = nI b) (ha : a < 2 ^ 31) (hb : b < 2 ^ 31) (hdg : decode cc pc = .ok (.if_icmp .ge off, 3)) (ht : (pc : Int) + off = (tgt : Int)) (hn : pc + 3 = n) (kt : b ≤ a → ZZ p l e R s m args below meth c G A nL cells slots Q ws lv tgt rest) (kf : a < b → ZZ p l e R s m args below meth c G A nL cells slots Q ws lv n rest) : ZZ p l e R s m args below meth c G A nL cells slots Q ws lv pc (.int y :: .int x :: rest) := by
  subst hx; subst hy
  exact z_icmp_ge hC hdg ht hn (fun h => kt ((nI_leI hb ha).mp h)) (fun h => kf (Nat.not_le.mp fun z => h ((nI_leI hb ha).mpr z)))
theorem z_if_gt (hC : Cx p s m args c cc nL own G tys A) {x : Int32} {off : Int} {tgt : Nat} (hdg : decode cc pc = .ok (.ifCond .gt off, 3)) (ht : (pc : Int) + off = (tgt : Int)) (hn : pc + 3 = n) (kt : 0 < x → ZZ p l e R s m args below meth c G A nL cells slots Q ws lv tgt rest) (kf : ¬ 0 < x → ZZ p l e R s m args below meth c G A nL cells slots Q ws lv n rest) : ZZ p l e R s m args below meth c G A nL cells slots Q ws lv pc (.int x :: rest) := by
  subst hn
  exact fun H locs ls hP hD hS hl => lv_if_gt hC.1 hC.2.1 hdg ht (fun h => kt h H locs ls hP hD hS hl) (fun h => kf h H locs ls hP hD hS hl)
theorem z_icmp_gt (hC : Cx p s m args c cc nL own G tys A) {x y : Int32} {off : Int} {tgt : Nat} (hdg : decode cc pc = .ok (.if_icmp .gt off, 3)) (ht : (pc : Int) + off = (tgt : Int)) (hn : pc + 3 = n) (kt : y < x → ZZ p l e R s m args below meth c G A nL cells slots Q ws lv tgt rest) (kf : ¬ y < x → ZZ p l e R s m args below meth c G A nL cells slots Q ws lv n rest) : ZZ p l e R s m args below meth c G A nL cells slots Q ws lv pc (.int y :: .int x :: rest) := by
  subst hn
  exact fun H locs ls hP hD hS hl => lv_icmp_gt hC.1 hC.2.1 hdg ht (fun h => kt h H locs ls hP hD hS hl) (fun h => kf h H locs ls hP hD hS hl)
theorem z_icmp_gt_n (hC : Cx p s m args c cc nL own G tys A) {x y : Int32} {off : Int} {tgt : Nat} (a b : Nat) (hx : x = nI a) (hy : y = nI b) (ha : a < 2 ^ 31) (hb : b < 2 ^ 31) (hdg : decode cc pc = .ok (.if_icmp .gt off, 3)) (ht : (pc : Int) + off = (tgt : Int)) (hn : pc + 3 = n) (kt : b < a → ZZ p l e R s m args below meth c G A nL cells slots Q ws lv tgt rest) (kf : a ≤ b → ZZ p l e R s m args below meth c G A nL cells slots Q ws lv n rest) : ZZ p l e R s m args below meth c G A nL cells slots Q ws lv pc (.int y :: .int x :: rest) := by
  subst hx; subst hy
  exact z_icmp_gt hC hdg ht hn (fun h => kt ((nI_ltI hb ha).mp h)) (fun h => kf (Nat.not_lt.mp fun z => h ((nI_ltI hb ha).mpr z)))
theorem z_if_le (hC : Cx p s m args c cc nL own G tys A) {x : Int32} {off : Int} {tgt : Nat} (hdg : decode cc pc = .ok (.ifCond .le off, 3)) (ht : (pc : Int) + off = (tgt : Int)) (hn : pc + 3 = n) (kt : x ≤ 0 → ZZ p l e R s m args below meth c G A nL cells slots Q ws lv tgt rest) (kf : ¬ x ≤ 0 → ZZ p l e R s m args below meth c G A nL cells slots Q ws lv n rest) : ZZ p l e R s m args below meth c G A nL cells slots Q ws lv pc (.int x :: rest) := by
  subst hn
  exact fun H locs ls hP hD hS hl => lv_if_le hC.1 hC.2.1 hdg ht (fun h => kt h H locs ls hP hD hS hl) (fun h => kf h H locs ls hP hD hS hl)
theorem z_icmp_le (hC : Cx p s m args c cc nL own G tys A) {x y : Int32} {off : Int} {tgt : Nat} (hdg : decode cc pc = .ok (.if_icmp .le off, 3)) (ht : (pc : Int) + off = (tgt : Int)) (hn : pc + 3 = n) (kt : x ≤ y → ZZ p l e R s m args below meth c G A nL cells slots Q ws lv tgt rest) (kf : ¬ x ≤ y → ZZ p l e R s m args below meth c G A nL cells slots Q ws lv n rest) : ZZ p l e R s m args below meth c G A nL cells slots Q ws lv pc (.int y :: .int x :: rest) := by
  subst hn
  exact fun H locs ls hP hD hS hl => lv_icmp_le hC.1 hC.2.1 hdg ht (fun h => kt h H locs ls hP hD hS hl) (fun h => kf h H locs ls hP hD hS hl)
theorem z_icmp_le_n (hC : Cx p s m args c cc nL own G tys A) {x y : Int32} {off : Int} {tgt : Nat} (a b : Nat) (hx : x = nI a) (hy : y = nI b) (ha : a < 2 ^ 31) (hb : b < 2 ^ 31) (hdg : decode cc pc = .ok (.if_icmp .le off, 3)) (ht : (pc : Int) + off = (tgt : Int)) (hn : pc + 3 = n) (kt : a ≤ b → ZZ p l e R s m args below meth c G A nL cells slots Q ws lv tgt rest) (kf : b < a → ZZ p l e R s m args below meth c G A nL cells slots Q ws lv n rest) : ZZ p l e R s m args below meth c G A nL cells slots Q ws lv pc (.int y :: .int x :: rest) := by
  subst hx; subst hy
  exact z_icmp_le hC hdg ht hn (fun h => kt ((nI_leI ha hb).mp h)) (fun h => kf (Nat.not_le.mp fun z => h ((nI_leI ha hb).mpr z)))
theorem z_iald (hC : Cx p s m args c cc nL own G tys A) (q0 t0 : Nat) {a : Nat} {cA : ClassId} {N : Nat} {f : Nat → Int32} (j : Nat) {x v : Int32} (ha : ws[q0]? = some (a, .inl (cA, N, .inl f))) (ht : tys[t0]? = some (cA, .int)) (hx : x = nI j) (hj : j < N) (hN : N < 2 ^ 31) (hdg : decode cc pc = .ok (.iaload, 1)) (hv : f j = v) (hn : pc + 1 = n) (k : ZZ p l e R s m args below meth c G A nL cells slots Q ws lv n (.int v :: rest)) : ZZ p l e R s m args below meth c G A nL cells slots Q ws lv pc (.int x :: .ref a :: rest) := by
  subst hn; subst hx; subst hv
  intro H locs ls hP hD hS hl
  refine va_iald hC.1 hC.2.1 hC.2.2.2.2.2.1 hP q0 t0 ha ht (vp_in_nI hj hN) hdg ?_
  rw [nI_clamp (Nat.lt_trans hj hN)]
  exact k H locs ls hP hD hS hl
theorem z_zald (hC : Cx p s m args c cc nL own G tys A) (q0 t0 : Nat) {a : Nat} {cA : ClassId} {N : Nat} {f : Nat → Int32} (j : Nat) {x v : Int32} (ha : ws[q0]? = some (a, .inl (cA, N, .inl f))) (ht : tys[t0]? = some (cA, .boolean)) (hx : x = nI j) (hj : j < N) (hN : N < 2 ^ 31) (hdg : decode cc pc = .ok (.baload, 1)) (hv : f j = v) (hn : pc + 1 = n) (k : ZZ p l e R s m args below meth c G A nL cells slots Q ws lv n (.int v :: rest)) : ZZ p l e R s m args below meth c G A nL cells slots Q ws lv pc (.int x :: .ref a :: rest) := by
  subst hn; subst hx; subst hv
  intro H locs ls hP hD hS hl
  refine va_zald hC.1 hC.2.1 hC.2.2.2.2.2.1 hP q0 t0 ha ht (vp_in_nI hj hN) hdg ?_
  rw [nI_clamp (Nat.lt_trans hj hN)]
  exact k H locs ls hP hD hS hl
theorem z_lald (hC : Cx p s m args c cc nL own G tys A) (q0 t0 : Nat) {a : Nat} {cA : ClassId} {N : Nat} {f : Nat → Int64} (j : Nat) {x : Int32} {v : Int64} (ha : ws[q0]? = some (a, .inl (cA, N, .inr (.inl f)))) (ht : tys[t0]? = some (cA, .long)) (hx : x = nI j) (hj : j < N) (hN : N < 2 ^ 31) (hdg : decode cc pc = .ok (.laload, 1)) (hv : f j = v) (hn : pc + 1 = n) (k : ZZ p l e R s m args below meth c G A nL cells slots Q ws lv n (.long v :: rest)) : ZZ p l e R s m args below meth c G A nL cells slots Q ws lv pc (.int x :: .ref a :: rest) := by
  subst hn; subst hx; subst hv
  intro H locs ls hP hD hS hl
  refine va_lald hC.1 hC.2.1 hC.2.2.2.2.2.1 hP q0 t0 ha ht (vp_in_nI hj hN) hdg ?_
  rw [nI_clamp (Nat.lt_trans hj hN)]
  exact k H locs ls hP hD hS hl
theorem z_iast (hC : Cx p s m args c cc nL own G tys A) (q0 t0 : Nat) {a : Nat} {cA : ClassId} {N : Nat} {f : Nat → Int32} (j : Nat) {x v : Int32} {f' : Nat → Int32} {ws' : va_W} (ha : ws[q0]? = some (a, .inl (cA, N, .inl f))) (ht : tys[t0]? = some (cA, .int)) (hx : x = nI j) (hj : j < N) (hN : N < 2 ^ 31) (hdg : decode cc pc = .ok (.iastore, 1)) (hf : upd f j v = f') (hw : ws.set q0 (a, .inl (cA, N, .inl f')) = ws') (hn : pc + 1 = n) (k : ZZ p l e R s m args below meth c G A nL cells slots Q ws' lv n rest) : ZZ p l e R s m args below meth c G A nL cells slots Q ws lv pc (.int v :: .int x :: .ref a :: rest) := by
  subst hn; subst hx; subst hf; subst hw
  intro H locs ls hP hD hS hl
  refine va_iast hC.1 hC.2.1 hC.2.2.2.2.2.1 hP hD hS q0 t0 ha ht (vp_in_nI hj hN) hdg (fun H1 locs1 hP hD hS => ?_)
  rw [nI_clamp (Nat.lt_trans hj hN)] at hP hD
  exact k H1 locs1 ls hP hD hS hl
theorem z_zast (hC : Cx p s m args c cc nL own G tys A) (q0 t0 : Nat) {a : Nat} {cA : ClassId} {N : Nat} {f : Nat → Int32} (j : Nat) {x v : Int32} {f' : Nat → Int32} {ws' : va_W} (ha : ws[q0]? = some (a, .inl (cA, N, .inl f))) (ht : tys[t0]? = some (cA, .boolean)) (hx : x = nI j) (hj : j < N) (hN : N < 2 ^ 31) (hv : vp_nar .boolean v = v) (hdg : decode cc pc = .ok (.bastore, 1)) (hf : upd f j v = f') (hw : ws.set q0 (a, .inl (cA, N, .inl f')) = ws') (hn : pc + 1 = n) (k : ZZ p l e R s m args below meth c G A nL cells slots Q ws' lv n rest) : ZZ p l e R s m args below meth c G A nL cells slots Q ws lv pc (.int v :: .int x :: .ref a :: rest) := by
  subst hn; subst hx; subst hf; subst hw
  intro H locs ls hP hD hS hl
  refine va_zast hC.1 hC.2.1 hC.2.2.2.2.2.1 hP hD hS q0 t0 ha ht (vp_in_nI hj hN) hdg (fun H1 locs1 hP hD hS => ?_)
  rw [nI_clamp (Nat.lt_trans hj hN), hv] at hP hD
  exact k H1 locs1 ls hP hD hS hl
theorem z_last (hC : Cx p s m args c cc nL own G tys A) (q0 t0 : Nat) {a : Nat} {cA : ClassId} {N : Nat} {f : Nat → Int64} (j : Nat) {x : Int32} {v : Int64} {ws' : va_W} (ha : ws[q0]? = some (a, .inl (cA, N, .inr (.inl f)))) (ht : tys[t0]? = some (cA, .long)) (hx : x = nI j) (hj : j < N) (hN : N < 2 ^ 31) (hdg : decode cc pc = .ok (.lastore, 1)) (hw : ws.set q0 (a, .inl (cA, N, .inr (.inl (vp_updL f j v)))) = ws') (hn : pc + 1 = n) (k : ZZ p l e R s m args below meth c G A nL cells slots Q ws' lv n rest) : ZZ p l e R s m args below meth c G A nL cells slots Q ws lv pc (.long v :: .int x :: .ref a :: rest) := by
  subst hn; subst hx; subst hw
  intro H locs ls hP hD hS hl
  refine va_last hC.1 hC.2.1 hC.2.2.2.2.2.1 hP hD hS q0 t0 ha ht (vp_in_nI hj hN) hdg (fun H1 locs1 hP hD hS => ?_)
  rw [nI_clamp (Nat.lt_trans hj hN)] at hP hD
  exact k H1 locs1 ls hP hD hS hl
theorem z_alen (hC : Cx p s m args c cc nL own G tys A) (q0 t0 : Nat) {a : Nat} {cA : ClassId} {x : vp_A} {ty : FieldType} {v : Int32} (ha : ws[q0]? = some (a, .inl (cA, x))) (ht : tys[t0]? = some (cA, ty)) (hv : Int32.ofNat x.1 = v) (hdg : decode cc pc = .ok (.arraylength, 1)) (hn : pc + 1 = n) (k : ZZ p l e R s m args below meth c G A nL cells slots Q ws lv n (.int v :: rest)) : ZZ p l e R s m args below meth c G A nL cells slots Q ws lv pc (.ref a :: rest) := by
  subst hn
  exact fun H locs ls hP hD hS hl => va_alen hC.1 hC.2.1 hC.2.2.2.2.2.1 hP q0 t0 ha ht hv hdg (k H locs ls hP hD hS hl)
theorem z_get (hC : Cx p s m args c cc nL own G tys A) {C : String} {T : u_T} {N ci index : Nat} (f : Nat) (hin : ∀ w ∈ u_ws C T N, w ∈ zAW) (hc : vwCl[ci]? = some (C, T, N)) (hf : f < N) (hlink : Cond.fieldLink own index (T f).1 (T f).2.1 (T f).2.2.1 ∈ zAW) (q0 : Nat) {a : Nat} {fs : List Value} {v : Value} (he : ws[q0]? = some (a, .inr (ci, fs))) (hv : fs[f]? = some v) (hdg : decode cc pc = .ok (.getfield index, 3)) (hn : pc + 3 = n) (k : ZZ p l e R s m args below meth c G A nL cells slots Q ws lv n (v :: rest)) : ZZ p l e R s m args below meth c G A nL cells slots Q ws lv pc (.ref a :: rest) := by
  subst hn
  exact fun H locs ls hP hD hS hl => va_get hC.1 hC.2.1 hC.2.2.2.2.1 hin hC.2.2.2.1 hC.2.2.2.2.2.1 hP q0 he hc f hf (hC.2.2.2.2.1 _ hlink) (fun _ h9 => h9) hv hdg (k H locs ls hP hD hS hl)
theorem z_put (hC : Cx p s m args c cc nL own G tys A) {C : String} {T : u_T} {N ci index : Nat} (f : Nat) (hin : ∀ w ∈ u_ws C T N, w ∈ zAW) (ty0 : Nat → FieldType) (hty : ∀ k, k < N → parseFieldDescriptor (T k).2.2.1 = some (ty0 k)) (hnm : ∀ a, a < N → ∀ b, b < N → a ≠ b → (T a).2.1 ≠ (T b).2.1) (hc : vwCl[ci]? = some (C, T, N)) (hf : f < N) (hlink : Cond.fieldLink own index (T f).1 (T f).2.1 (T f).2.2.1 ∈ zAW) (hfin : (T f).2.2.2 = false) (hd : parseFieldDescriptor (T f).2.2.1 = some .int) (q0 : Nat) {a : Nat} {fs : List Value} {v : Int32} {ws' : va_W} (he : ws[q0]? = some (a, .inr (ci, fs))) (hl9 : f < fs.length) (hdg : decode cc pc = .ok (.putfield index, 3)) (hw : ws.set q0 (a, .inr (ci, fs.set f (.int v))) = ws') (hn : pc + 3 = n) (k : ZZ p l e R s m args below meth c G A nL cells slots Q ws' lv n rest) : ZZ p l e R s m args below meth c G A nL cells slots Q ws lv pc (.int v :: .ref a :: rest) := by
  subst hn; subst hw
  exact fun H locs ls hP hD hS hl => va_put (ty := .int) hC.1 hC.2.1 hC.2.2.2.2.1 hin ty0 hty hnm hC.2.2.2.1 hC.2.2.2.2.2.1 hP hD hS q0 he hc f hf (hC.2.2.2.2.1 _ hlink) (fun _ h9 => h9) hfin hd rfl rfl hl9 hdg (fun H1 locs1 hP hD hS => k H1 locs1 ls hP hD hS hl)
theorem z_putF (hC : Cx p s m args c cc nL own G tys A) {C : String} {T : u_T} {N ci index : Nat} (f : Nat) (hin : ∀ w ∈ u_ws C T N, w ∈ zAW) (ty0 : Nat → FieldType) (hty : ∀ k, k < N → parseFieldDescriptor (T k).2.2.1 = some (ty0 k)) (hnm : ∀ a, a < N → ∀ b, b < N → a ≠ b → (T a).2.1 ≠ (T b).2.1) (hc : vwCl[ci]? = some (C, T, N)) (hf : f < N) (hlink : Cond.fieldLink own index (T f).1 (T f).2.1 (T f).2.2.1 ∈ zAW) (hfin : (T f).2.2.2 = true) (hin2 : meth.name = "<init>") (hdecl : (T f).1 = own) {ty : FieldType} (hd : parseFieldDescriptor (T f).2.2.1 = some ty) (q0 : Nat) {a : Nat} {fs : List Value} {v : Value} (hnr : narrow ty v = v) (hfit : fits ty v = true) {ws' : va_W} (he : ws[q0]? = some (a, .inr (ci, fs))) (hl9 : f < fs.length) (hdg : decode cc pc = .ok (.putfield index, 3)) (hw : ws.set q0 (a, .inr (ci, fs.set f v)) = ws') (hn : pc + 3 = n) (k : ZZ p l e R s m args below meth c G A nL cells slots Q ws' lv n rest) : ZZ p l e R s m args below meth c G A nL cells slots Q ws lv pc (v :: .ref a :: rest) := by
  subst hn; subst hw
  exact fun H locs ls hP hD hS hl => va_putF (ty := ty) hC.1 hC.2.1 hC.2.2.2.2.1 hin ty0 hty hnm hC.2.2.2.1 hC.2.2.2.2.2.1 hP hD hS q0 he hc f hf (hC.2.2.2.2.1 _ hlink) (fun _ h9 => h9) hfin hin2 hdecl hd hnr hfit hl9 hdg (fun H1 locs1 hP hD hS => k H1 locs1 ls hP hD hS hl)
theorem z_mabs (hC : Cx p s m args c cc nL own G tys A) {index : Nat} (hlink : Cond.methodLink own index Lib.Math.abs.name ∈ zAW) (hstat : Cond.static Lib.Math.abs.name ∈ zAW) (hini : Cond.initialized "java/lang/Math" ∈ zAW) (hcode : Cond.code Lib.Math.abs.name Lib.Math.abs.code 1 (some .int) ∈ zAW) (hfr : 1 ≤ R.frames) (hlo : (rest.map fun v => v.category).sum + 13 ≤ R.locals) (hc : cells ≤ R.cells) (hs : slots ≤ R.slots) {x v : Int32} (hdg : decode cc pc = .ok (.invokestatic index, 3)) (hv : (if 0 ≤ x then x else 0 - x) = v) (hn : pc + 3 = n) (k : ZZ p l e R s m args below meth c G A nL cells slots Q ws lv n (.int v :: rest)) : ZZ p l e R s m args below meth c G A nL cells slots Q ws lv pc (.int x :: rest) := by
  subst hn; subst hv
  exact fun H locs ls hP hD hS hl => va_mabs hC.1 hC.2.1 (hC.2.2.1.trans hl.1.symm) hC.2.2.2.1 (hC.2.2.2.2.1 _ hlink) (hC.2.2.2.2.1 _ hstat) (hC.2.2.2.2.1 _ hini) (hC.2.2.2.2.1 _ hcode) hfr hlo hc hs hdg (k H locs ls hP hD hS hl)
theorem z_mmax (hC : Cx p s m args c cc nL own G tys A) {index : Nat} (hlink : Cond.methodLink own index Lib.Math.max.name ∈ zAW) (hstat : Cond.static Lib.Math.max.name ∈ zAW) (hini : Cond.initialized "java/lang/Math" ∈ zAW) (hcode : Cond.code Lib.Math.max.name Lib.Math.max.code 2 (some .int) ∈ zAW) (hfr : 1 ≤ R.frames) (hlo : (rest.map fun v => v.category).sum + 13 ≤ R.locals) (hc : cells ≤ R.cells) (hs : slots ≤ R.slots) {x y v : Int32} (hdg : decode cc pc = .ok (.invokestatic index, 3)) (hv : (if x < y then y else x) = v) (hn : pc + 3 = n) (k : ZZ p l e R s m args below meth c G A nL cells slots Q ws lv n (.int v :: rest)) : ZZ p l e R s m args below meth c G A nL cells slots Q ws lv pc (.int y :: .int x :: rest) := by
  subst hn; subst hv
  exact fun H locs ls hP hD hS hl => va_mmax hC.1 hC.2.1 (hC.2.2.1.trans hl.1.symm) hC.2.2.2.1 (hC.2.2.2.2.1 _ hlink) (hC.2.2.2.2.1 _ hstat) (hC.2.2.2.2.1 _ hini) (hC.2.2.2.2.1 _ hcode) hfr hlo hc hs hdg (k H locs ls hP hD hS hl)
theorem z_copy (hC : Cx p s m args c cc nL own G tys A) {index : Nat} (hlink : Cond.methodLink own index arraycopyName ∈ zAW) (hnat : Cond.native arraycopyName ∈ zAW) (hstat : Cond.static arraycopyName ∈ zAW) (hini : Cond.initialized "java/lang/System" ∈ zAW) (q0 q1 t0 t1 : Nat) {a0 a : Nat} {cA : ClassId} {f g g' : Nat → Int32} {sp dp z : Int32} {ws' : va_W} (ha0 : ws[q0]? = some (a0, .inl (cA, 25, .inl f))) (ha1 : ws[q1]? = some (a, .inl (cA, 25, .inl g))) (ht0 : tys[t0]? = some (cA, .int)) (ht1 : tys[t1]? = some (cA, .int)) (hsp : sp = nI 0) (hdp : dp = nI 0) (hz : z = nI 25) (hfr : 1 ≤ R.frames) (hlo : (rest.map fun v => v.category).sum + (nativeFrameWords "java/lang/System" "arraycopy" 5 + 11) ≤ R.locals) (hdg : decode cc pc = .ok (.invokestatic index, 3)) (hg : va_cpy f g 0 0 25 = g') (hw : ws.set q1 (a, .inl (cA, 25, .inl g')) = ws') (hn : pc + 3 = n) (k : ZZ p l e R s m args below meth c G A nL cells slots Q ws' lv n rest) : ZZ p l e R s m args below meth c G A nL cells slots Q ws lv pc (.int z :: .int dp :: .ref a :: .int sp :: .ref a0 :: rest) := by
  subst hn; subst hsp; subst hdp; subst hz; subst hg; subst hw
  have e0 : (nI 0).toNatClampNeg = 0 := nI_clamp (by decide)
  have e1 : (nI 25).toNatClampNeg = 25 := nI_clamp (by decide)
  intro H locs ls hP hD hS hl
  refine va_copyi hC.1 hC.2.1 (hC.2.2.1.trans hl.1.symm) hC.2.2.2.1 (hC.2.2.2.2.1 _ hlink) (hC.2.2.2.2.1 _ hnat) (hC.2.2.2.2.1 _ hstat) (hC.2.2.2.2.1 _ hini) hC.2.2.2.2.2.1 hP hD hS q0 q1 t0 t1 ha0 ha1 ht0 ht1 rfl (by decide) (by decide) (by decide) (by rw [e0, e1]; decide) (by rw [e0, e1]; decide) (fun _ _ => rfl) hfr hlo hdg (fun H1 locs1 hP hD hS => ?_)
  rw [e0, e1] at hP hD
  exact k H1 locs1 ls hP hD hS hl
/-- fewer or reordered cells, locals; more room -/
theorem z_ws (is : List Nat) {ws' : va_W} (hnd : va_nd is = true) (h : is.map (fun i => ws[i]?) = ws'.map some) {st : List Value} (k : ZZ p l e R s m args below meth c G A nL cells slots Q ws' lv pc st) : ZZ p l e R s m args below meth c G A nL cells slots Q ws lv pc st :=
  fun H locs ls hP hD hS hl => k H locs ls (wmap_P hP h) (hD.sub is hnd h) hS hl
theorem z_lv (ks : List Nat) {lv' : List (Nat × Value)} (h : lv_pick lv ks = lv') {st : List Value} (k : ZZ p l e R s m args below meth c G A nL cells slots Q ws lv' pc st) : ZZ p l e R s m args below meth c G A nL cells slots Q ws lv pc st :=
  fun H locs ls hP hD hS hl => k H locs ls hP hD hS (lv_sub hl ks h)
theorem z_weq {ws' : va_W} (h : ws = ws') {st : List Value} (k : ZZ p l e R s m args below meth c G A nL cells slots Q ws' lv pc st) : ZZ p l e R s m args below meth c G A nL cells slots Q ws lv pc st := h ▸ k
theorem z_leq {lv' : List (Nat × Value)} (h : lv = lv') {st : List Value} (k : ZZ p l e R s m args below meth c G A nL cells slots Q ws lv' pc st) : ZZ p l e R s m args below meth c G A nL cells slots Q ws lv pc st := h ▸ k
theorem z_seq {st st' : List Value} (h : st = st') (k : ZZ p l e R s m args below meth c G A nL cells slots Q ws lv pc st') : ZZ p l e R s m args below meth c G A nL cells slots Q ws lv pc st := h ▸ k
theorem z_top {x y : Int32} (h : x = y) (k : ZZ p l e R s m args below meth c G A nL cells slots Q ws lv pc (.int y :: rest)) : ZZ p l e R s m args below meth c G A nL cells slots Q ws lv pc (.int x :: rest) := h ▸ k
/-- a loop with a counter that goes up to N -/
theorem z_loop (N : Nat) (i0 : Nat) (f : Nat → va_W) (g : Nat → List (Nat × Value)) (hi0 : i0 ≤ N) (hw : ws = f i0) (hl : lv = g i0) {st : List Value} (step : ∀ i, i0 ≤ i → i ≤ N → (∀ j, i < j → j ≤ N → ZZ p l e R s m args below meth c G A nL cells slots Q (f j) (g j) pc st) → ZZ p l e R s m args below meth c G A nL cells slots Q (f i) (g i) pc st) : ZZ p l e R s m args below meth c G A nL cells slots Q ws lv pc st := by
  subst hw; subst hl
  have key : ∀ d i, N - i = d → i0 ≤ i → i ≤ N → ZZ p l e R s m args below meth c G A nL cells slots Q (f i) (g i) pc st := by
    intro d
    induction d using Nat.strongRecOn with
    | ind d ih =>
      intro i hd hi1 hi
      exact step i hi1 hi (fun j h1 h2 => ih (N - j) (by omega) j rfl (by omega) h2)
  exact key _ i0 rfl (Nat.le_refl _) hi0
/-- the same, with more that a turn changes (u), and room that grows -/
theorem z_loopS {σ : Type} (N : Nat) (i0 : Nat) (I : Nat → σ → Prop) (f : Nat → σ → va_W) (g : Nat → σ → List (Nat × Value)) (kc ks : Nat → Nat) (u0 : σ) (hi0 : i0 ≤ N) (hI : I i0 u0) (hw : ws = f i0 u0) (hl : lv = g i0 u0) (hkc : cells ≤ kc i0) (hks : slots ≤ ks i0) {st : List Value} (step : ∀ i u, i0 ≤ i → i ≤ N → I i u → (∀ j u', i < j → j ≤ N → I j u' → ZZ p l e R s m args below meth c G A nL (kc j) (ks j) Q (f j u') (g j u') pc st) → ZZ p l e R s m args below meth c G A nL (kc i) (ks i) Q (f i u) (g i u) pc st) : ZZ p l e R s m args below meth c G A nL cells slots Q ws lv pc st := by
  subst hw; subst hl
  have key : ∀ d i u, N - i = d → i0 ≤ i → i ≤ N → I i u → ZZ p l e R s m args below meth c G A nL (kc i) (ks i) Q (f i u) (g i u) pc st := by
    intro d
    induction d using Nat.strongRecOn with
    | ind d ih =>
      intro i u hd hi1 hi hu
      exact step i u hi1 hi hu (fun j u' h1 h2 h3 => ih (N - j) (by omega) j u' rfl (by omega) h2 h3)
  exact fun H locs ls hP hD hS hl => W.widen hkc hks (key _ i0 u0 rfl (Nat.le_refl _) hi0 hI H locs ls hP hD hS hl)
theorem z_widen {k1 k2 : Nat} (h1 : cells ≤ k1) (h2 : slots ≤ k2) {st : List Value} (k : ZZ p l e R s m args below meth c G A nL k1 k2 Q ws lv pc st) : ZZ p l e R s m args below meth c G A nL cells slots Q ws lv pc st :=
  fun H locs ls hP hD hS hl => W.widen h1 h2 (k H locs ls hP hD hS hl)
theorem z_ldcw (hC : Cx p s m args c cc nL own G tys A) {index : Nat} {v : Int32} (hw : Cond.constant own index v ∈ zAW) (hdg : decode cc pc = .ok (.ldc_w index, 3)) (hn : pc + 3 = n) (k : ZZ p l e R s m args below meth c G A nL cells slots Q ws lv n (.int v :: rest)) : ZZ p l e R s m args below meth c G A nL cells slots Q ws lv pc rest := by
  subst hn
  exact fun H locs ls hP hD hS hl => lv_ldcw hC.1 hC.2.1 hC.2.2.2.1 (hC.2.2.2.2.1 _ hw) hdg (k H locs ls hP hD hS hl)
theorem z_ldcl (hC : Cx p s m args c cc nL own G tys A) {index : Nat} {v : Int64} (hw : Cond.constantLong own index v ∈ zAW) (hdg : decode cc pc = .ok (.ldc2_w index, 3)) (hn : pc + 3 = n) (k : ZZ p l e R s m args below meth c G A nL cells slots Q ws lv n (.long v :: rest)) : ZZ p l e R s m args below meth c G A nL cells slots Q ws lv pc rest := by
  subst hn
  exact fun H locs ls hP hD hS hl => lv_ldc2 hC.1 hC.2.1 hC.2.2.2.1 (hC.2.2.2.2.1 _ hw) hdg (k H locs ls hP hD hS hl)
end ZR
theorem z_iret {p : Program} {l : Launch} {e : Env} {R : Room} {s : State} {m : MethodId} {args : Array Value} {below : List Frame} {meth : Method} {c : Code} {cc : ByteArray} {nL : Nat} {own : String} {G : va_G} {tys : List (ClassId × FieldType)} {W0 : va_W} {cells slots : Nat} {ws : va_W} {lv : List (Nat × Value)} {pc : Nat} {S : Type} {post : Int32 → S → Prop} {W1 : S → va_W} {v : Int32} {mc ms : Nat} (hC : Cx p s m args c cc nL own G tys (va_A W0 s.heap.size)) (hr : meth.sig.returnType = some .int) (hlocks : meth.locks = false) (u : S) (hp : post v u) (hw : ws = W1 u) (hdg : decode cc pc = .ok (.ireturn, 1)) (h1 : cells ≤ mc) (h2 : slots ≤ ms) : ZZ p l e R s m args below meth c G (va_A W0 s.heap.size) nL cells slots (MQ below (va_Qi post (fun u => cE G tys (va_A W0 s.heap.size) (W1 u)) (va_A W0 s.heap.size)) args s mc ms (va_A W0 s.heap.size)) ws lv pc [.int v] := by
  subst hw
  intro H locs ls hP hD hS hl
  refine W.widen h1 h2 ?_
  exact W.iret hC.1 hC.2.1 hr (fun t ht hW => ⟨⟨v, u, rfl, hp, by rw [ht]; exact hP, va_K.moved hW.alike hC.2.2.2.2.2.1, hD⟩, hS.F ht⟩) hS.2.2 hdg hlocks
theorem z_lret {p : Program} {l : Launch} {e : Env} {R : Room} {s : State} {m : MethodId} {args : Array Value} {below : List Frame} {meth : Method} {c : Code} {cc : ByteArray} {nL : Nat} {own : String} {G : va_G} {tys : List (ClassId × FieldType)} {W0 : va_W} {cells slots : Nat} {ws : va_W} {lv : List (Nat × Value)} {pc : Nat} {S : Type} {post : Int64 → S → Prop} {W1 : S → va_W} {v : Int64} {mc ms : Nat} (hC : Cx p s m args c cc nL own G tys (va_A W0 s.heap.size)) (hr : meth.sig.returnType = some .long) (hlocks : meth.locks = false) (u : S) (hp : post v u) (hw : ws = W1 u) (hdg : decode cc pc = .ok (.lreturn, 1)) (h1 : cells ≤ mc) (h2 : slots ≤ ms) : ZZ p l e R s m args below meth c G (va_A W0 s.heap.size) nL cells slots (MQ below (va_Ql post (fun u => cE G tys (va_A W0 s.heap.size) (W1 u)) (va_A W0 s.heap.size)) args s mc ms (va_A W0 s.heap.size)) ws lv pc [.long v] := by
  subst hw
  intro H locs ls hP hD hS hl
  refine W.widen h1 h2 ?_
  exact W.lret hC.1 hC.2.1 hr (fun t ht hW => ⟨⟨v, u, rfl, hp, by rw [ht]; exact hP, va_K.moved hW.alike hC.2.2.2.2.2.1, hD⟩, hS.F ht⟩) hS.2.2 hdg hlocks
theorem z_dret {p : Program} {l : Launch} {e : Env} {R : Room} {s : State} {m : MethodId} {args : Array Value} {below : List Frame} {meth : Method} {c : Code} {cc : ByteArray} {nL : Nat} {own : String} {G : va_G} {tys : List (ClassId × FieldType)} {W0 : va_W} {cells slots : Nat} {ws : va_W} {lv : List (Nat × Value)} {pc : Nat} {S : Type} {post : UInt64 → S → Prop} {W1 : S → va_W} {v : UInt64} {mc ms : Nat} (hC : Cx p s m args c cc nL own G tys (va_A W0 s.heap.size)) (hr : meth.sig.returnType = some .double) (hlocks : meth.locks = false) (u : S) (hp : post v u) (hw : ws = W1 u) (hdg : decode cc pc = .ok (.dreturn, 1)) (h1 : cells ≤ mc) (h2 : slots ≤ ms) : ZZ p l e R s m args below meth c G (va_A W0 s.heap.size) nL cells slots (MQ below (va_Qd post (fun u => cE G tys (va_A W0 s.heap.size) (W1 u)) (va_A W0 s.heap.size)) args s mc ms (va_A W0 s.heap.size)) ws lv pc [.double v] := by
  subst hw
  intro H locs ls hP hD hS hl
  refine W.widen h1 h2 ?_
  exact W.dret hC.1 hC.2.1 hr (fun t ht hW => ⟨⟨v, u, rfl, hp, by rw [ht]; exact hP, va_K.moved hW.alike hC.2.2.2.2.2.1, hD⟩, hS.F ht⟩) hS.2.2 hdg hlocks
theorem z_zret {p : Program} {l : Launch} {e : Env} {R : Room} {s : State} {m : MethodId} {args : Array Value} {below : List Frame} {meth : Method} {c : Code} {cc : ByteArray} {nL : Nat} {own : String} {G : va_G} {tys : List (ClassId × FieldType)} {W0 : va_W} {cells slots : Nat} {ws : va_W} {lv : List (Nat × Value)} {pc : Nat} {S : Type} {post : Int32 → S → Prop} {W1 : S → va_W} {v : Int32} {mc ms : Nat} (hC : Cx p s m args c cc nL own G tys (va_A W0 s.heap.size)) (hr : meth.sig.returnType = some .boolean) (hlocks : meth.locks = false) (u : S) (hp : narrow .boolean (.int v) = .int v ∧ post v u) (hw : ws = W1 u) (hdg : decode cc pc = .ok (.ireturn, 1)) (h1 : cells ≤ mc) (h2 : slots ≤ ms) : ZZ p l e R s m args below meth c G (va_A W0 s.heap.size) nL cells slots (MQ below (va_Qi post (fun u => cE G tys (va_A W0 s.heap.size) (W1 u)) (va_A W0 s.heap.size)) args s mc ms (va_A W0 s.heap.size)) ws lv pc [.int v] := by
  subst hw
  intro H locs ls hP hD hS hl
  refine W.widen h1 h2 ?_
  exact W.zret hC.1 hC.2.1 hr hp.1 (fun t ht hW => ⟨⟨v, u, rfl, hp.2, by rw [ht]; exact hP, va_K.moved hW.alike hC.2.2.2.2.2.1, hD⟩, hS.F ht⟩) hS.2.2 hdg hlocks
theorem z_vret {p : Program} {l : Launch} {e : Env} {R : Room} {s : State} {m : MethodId} {args : Array Value} {below : List Frame} {meth : Method} {c : Code} {cc : ByteArray} {nL : Nat} {own : String} {G : va_G} {tys : List (ClassId × FieldType)} {W0 : va_W} {cells slots : Nat} {ws : va_W} {lv : List (Nat × Value)} {pc : Nat} {S : Type} {post : S → Prop} {W1 : S → va_W} {mc ms : Nat} (hC : Cx p s m args c cc nL own G tys (va_A W0 s.heap.size)) (hr : meth.sig.returnType = none) (hlocks : meth.locks = false) (u : S) (hp : post u) (hw : ws = W1 u) (hdg : decode cc pc = .ok (.return_, 1)) (h1 : cells ≤ mc) (h2 : slots ≤ ms) : ZZ p l e R s m args below meth c G (va_A W0 s.heap.size) nL cells slots (MQ below (va_Qv post (fun u => cE G tys (va_A W0 s.heap.size) (W1 u)) (va_A W0 s.heap.size)) args s mc ms (va_A W0 s.heap.size)) ws lv pc [] := by
  subst hw
  intro H locs ls hP hD hS hl
  refine W.widen h1 h2 ?_
  exact W.vret hC.1 hC.2.1 hr (fun t ht hW => ⟨⟨u, rfl, hp, by rw [ht]; exact hP, va_K.moved hW.alike hC.2.2.2.2.2.1, hD⟩, hS.F ht⟩) hS.2.2 hdg hlocks
theorem MI_of {S : Type} {l : Launch} {y : MethodName} {cy : ByteArray} {nl fr lo : Nat} {G : va_G} {tys : List (ClassId × FieldType)} {av : List Value} {W0 : va_W} {post : Int32 → S → Prop} {W1 : S → va_W} {mc ms : Nat} (hy : plainName y.cls = true) (hnl : (lg_sl av).length ≤ nl) (lv : List (Nat × Value)) (hlv : lv_args 0 av = lv)
    (body : ∀ (p : Program) (e : Env) (s : State) (m : MethodId) (below : List Frame) (meth : Method) (c : Code), Cx p s m av.toArray c cy nl y.cls G tys (va_A W0 s.heap.size) → meth.sig.returnType = some .int → meth.locks = false → meth.name = y.name →
      ZZ p l e { frames := fr, cells := mc, slots := ms, locals := lo } s m av.toArray below meth c G (va_A W0 s.heap.size) nl 0 0 (MQ below (va_Qi post (fun u => cE G tys (va_A W0 s.heap.size) (W1 u)) (va_A W0 s.heap.size)) av.toArray s mc ms (va_A W0 s.heap.size)) W0 lv 0 []) : MI S l y cy nl fr lo G tys av W0 post W1 mc ms := by
  intro sz
  refine Met.ofW (cc := cy) (maxL := nl) (ret := some .int) hy rfl ?_
  intro p e s m args below meth c s₁ B hml hv
  obtain ⟨rfl, hsz, hP, hK, hD0, hN0, hT0⟩ := hv
  subst hsz
  have hts := atoms_spec (ws := Cond.code y cy nl (some .int) :: zAW) B.pre
  have hl := lv_entry av (n := nl) hnl
  rw [lg_entry_eq]
  exact body p e s m below meth c ⟨B.exec, B.bytes, hml, findClass_of_methodNamed B.named, fun w h => hts w (List.mem_cons_of_mem _ h), hK, fun q h => Or.inr h, hN0, hT0⟩ B.returns B.notSynchronized (name_of_methodNamed B.named B.method).1 s.heap [] _ hP hD0.self va_S.rf (hlv ▸ hl)
theorem MB_of {S : Type} {l : Launch} {y : MethodName} {cy : ByteArray} {nl fr lo : Nat} {G : va_G} {tys : List (ClassId × FieldType)} {av : List Value} {W0 : va_W} {post : Int32 → S → Prop} {W1 : S → va_W} {mc ms : Nat} (hy : plainName y.cls = true) (hnl : (lg_sl av).length ≤ nl) (lv : List (Nat × Value)) (hlv : lv_args 0 av = lv)
    (body : ∀ (p : Program) (e : Env) (s : State) (m : MethodId) (below : List Frame) (meth : Method) (c : Code), Cx p s m av.toArray c cy nl y.cls G tys (va_A W0 s.heap.size) → meth.sig.returnType = some .boolean → meth.locks = false → meth.name = y.name →
      ZZ p l e { frames := fr, cells := mc, slots := ms, locals := lo } s m av.toArray below meth c G (va_A W0 s.heap.size) nl 0 0 (MQ below (va_Qi post (fun u => cE G tys (va_A W0 s.heap.size) (W1 u)) (va_A W0 s.heap.size)) av.toArray s mc ms (va_A W0 s.heap.size)) W0 lv 0 []) : MB S l y cy nl fr lo G tys av W0 post W1 mc ms := by
  intro sz
  refine Met.ofW (cc := cy) (maxL := nl) (ret := some .boolean) hy rfl ?_
  intro p e s m args below meth c s₁ B hml hv
  obtain ⟨rfl, hsz, hP, hK, hD0, hN0, hT0⟩ := hv
  subst hsz
  have hts := atoms_spec (ws := Cond.code y cy nl (some .boolean) :: zAW) B.pre
  have hl := lv_entry av (n := nl) hnl
  rw [lg_entry_eq]
  exact body p e s m below meth c ⟨B.exec, B.bytes, hml, findClass_of_methodNamed B.named, fun w h => hts w (List.mem_cons_of_mem _ h), hK, fun q h => Or.inr h, hN0, hT0⟩ B.returns B.notSynchronized (name_of_methodNamed B.named B.method).1 s.heap [] _ hP hD0.self va_S.rf (hlv ▸ hl)
theorem ML_of {S : Type} {l : Launch} {y : MethodName} {cy : ByteArray} {nl fr lo : Nat} {G : va_G} {tys : List (ClassId × FieldType)} {av : List Value} {W0 : va_W} {post : Int64 → S → Prop} {W1 : S → va_W} {mc ms : Nat} (hy : plainName y.cls = true) (hnl : (lg_sl av).length ≤ nl) (lv : List (Nat × Value)) (hlv : lv_args 0 av = lv)
    (body : ∀ (p : Program) (e : Env) (s : State) (m : MethodId) (below : List Frame) (meth : Method) (c : Code), Cx p s m av.toArray c cy nl y.cls G tys (va_A W0 s.heap.size) → meth.sig.returnType = some .long → meth.locks = false → meth.name = y.name →
      ZZ p l e { frames := fr, cells := mc, slots := ms, locals := lo } s m av.toArray below meth c G (va_A W0 s.heap.size) nl 0 0 (MQ below (va_Ql post (fun u => cE G tys (va_A W0 s.heap.size) (W1 u)) (va_A W0 s.heap.size)) av.toArray s mc ms (va_A W0 s.heap.size)) W0 lv 0 []) : ML S l y cy nl fr lo G tys av W0 post W1 mc ms := by
  intro sz
  refine Met.ofW (cc := cy) (maxL := nl) (ret := some .long) hy rfl ?_
  intro p e s m args below meth c s₁ B hml hv
  obtain ⟨rfl, hsz, hP, hK, hD0, hN0, hT0⟩ := hv
  subst hsz
  have hts := atoms_spec (ws := Cond.code y cy nl (some .long) :: zAW) B.pre
  have hl := lv_entry av (n := nl) hnl
  rw [lg_entry_eq]
  exact body p e s m below meth c ⟨B.exec, B.bytes, hml, findClass_of_methodNamed B.named, fun w h => hts w (List.mem_cons_of_mem _ h), hK, fun q h => Or.inr h, hN0, hT0⟩ B.returns B.notSynchronized (name_of_methodNamed B.named B.method).1 s.heap [] _ hP hD0.self va_S.rf (hlv ▸ hl)
theorem MD_of {S : Type} {l : Launch} {y : MethodName} {cy : ByteArray} {nl fr lo : Nat} {G : va_G} {tys : List (ClassId × FieldType)} {av : List Value} {W0 : va_W} {post : UInt64 → S → Prop} {W1 : S → va_W} {mc ms : Nat} (hy : plainName y.cls = true) (hnl : (lg_sl av).length ≤ nl) (lv : List (Nat × Value)) (hlv : lv_args 0 av = lv)
    (body : ∀ (p : Program) (e : Env) (s : State) (m : MethodId) (below : List Frame) (meth : Method) (c : Code), Cx p s m av.toArray c cy nl y.cls G tys (va_A W0 s.heap.size) → meth.sig.returnType = some .double → meth.locks = false → meth.name = y.name →
      ZZ p l e { frames := fr, cells := mc, slots := ms, locals := lo } s m av.toArray below meth c G (va_A W0 s.heap.size) nl 0 0 (MQ below (va_Qd post (fun u => cE G tys (va_A W0 s.heap.size) (W1 u)) (va_A W0 s.heap.size)) av.toArray s mc ms (va_A W0 s.heap.size)) W0 lv 0 []) : MD S l y cy nl fr lo G tys av W0 post W1 mc ms := by
  intro sz
  refine Met.ofW (cc := cy) (maxL := nl) (ret := some .double) hy rfl ?_
  intro p e s m args below meth c s₁ B hml hv
  obtain ⟨rfl, hsz, hP, hK, hD0, hN0, hT0⟩ := hv
  subst hsz
  have hts := atoms_spec (ws := Cond.code y cy nl (some .double) :: zAW) B.pre
  have hl := lv_entry av (n := nl) hnl
  rw [lg_entry_eq]
  exact body p e s m below meth c ⟨B.exec, B.bytes, hml, findClass_of_methodNamed B.named, fun w h => hts w (List.mem_cons_of_mem _ h), hK, fun q h => Or.inr h, hN0, hT0⟩ B.returns B.notSynchronized (name_of_methodNamed B.named B.method).1 s.heap [] _ hP hD0.self va_S.rf (hlv ▸ hl)
theorem MV_of {S : Type} {l : Launch} {y : MethodName} {cy : ByteArray} {nl fr lo : Nat} {G : va_G} {tys : List (ClassId × FieldType)} {av : List Value} {W0 : va_W} {post : S → Prop} {W1 : S → va_W} {mc ms : Nat} (hy : plainName y.cls = true) (hnl : (lg_sl av).length ≤ nl) (lv : List (Nat × Value)) (hlv : lv_args 0 av = lv)
    (body : ∀ (p : Program) (e : Env) (s : State) (m : MethodId) (below : List Frame) (meth : Method) (c : Code), Cx p s m av.toArray c cy nl y.cls G tys (va_A W0 s.heap.size) → meth.sig.returnType = none → meth.locks = false → meth.name = y.name →
      ZZ p l e { frames := fr, cells := mc, slots := ms, locals := lo } s m av.toArray below meth c G (va_A W0 s.heap.size) nl 0 0 (MQ below (va_Qv post (fun u => cE G tys (va_A W0 s.heap.size) (W1 u)) (va_A W0 s.heap.size)) av.toArray s mc ms (va_A W0 s.heap.size)) W0 lv 0 []) : MV S l y cy nl fr lo G tys av W0 post W1 mc ms := by
  intro sz
  refine Met.ofW (cc := cy) (maxL := nl) (ret := none) hy rfl ?_
  intro p e s m args below meth c s₁ B hml hv
  obtain ⟨rfl, hsz, hP, hK, hD0, hN0, hT0⟩ := hv
  subst hsz
  have hts := atoms_spec (ws := Cond.code y cy nl (none) :: zAW) B.pre
  have hl := lv_entry av (n := nl) hnl
  rw [lg_entry_eq]
  exact body p e s m below meth c ⟨B.exec, B.bytes, hml, findClass_of_methodNamed B.named, fun w h => hts w (List.mem_cons_of_mem _ h), hK, fun q h => Or.inr h, hN0, hT0⟩ B.returns B.notSynchronized (name_of_methodNamed B.named B.method).1 s.heap [] _ hP hD0.self va_S.rf (hlv ▸ hl)
theorem zMet_ofWF {l : Launch} {y : MethodName} {ws ws' : List Cond} {rm : Room} {Pc : Array Value → State → Prop} {Qc : Array Value → State → Outcome → State → Prop} {mc ms : Nat} {free : Addr → Prop} {cc : ByteArray} {maxL : Nat} {ret : Option FieldType}
    (hy : plainFor y = true) (hw : ws = Cond.code y cc maxL ret :: ws')
    (body : ∀ p e s m args below meth c s₁, BodyLoose p l y (headSpec ws rm) cc maxL ret e s m args below meth c s₁ → c.maxLocals = maxL → Pc args s →
      W p l e (headSpec ws rm).room s m args below meth c s.heap [] 0 0 (MQ below Qc args s mc ms free) (entryFrame m args maxL)) : Met l y ws rm Pc Qc mc ms free := by
  refine MetFree.of_bodySF (code := cc) (maxLocals := maxL) (ret := ret) hy ?_ ?_
  · intro args s m h hn
    obtain ⟨meth, c, h1, h2, h3, h4, h5, h6, -, -⟩ := Cond.code_spec hn (atoms_spec (ws := ws) h _ (by rw [hw]; exact List.mem_cons_self))
    exact ⟨meth, c, h1, h2, h3, h4, h5, h6⟩
  · intro p e s m args below meth c s₁ B hml hP _
    have hh0 : s₁.heap = s.heap := by rw [B.state]; rfl
    obtain ⟨t, a1, o, b1, b2, b3⟩ := body p e s m args below meth c s₁ B hml hP s₁ hh0 (Stand.of_body B)
    exact ⟨t, o, a1, b1, b2, ⟨b3.1, b3.2⟩⟩
theorem zMI_ofF {S : Type} {l : Launch} {y : MethodName} {cy : ByteArray} {nl fr lo : Nat} {G : va_G} {tys : List (ClassId × FieldType)} {av : List Value} {W0 : va_W} {post : Int32 → S → Prop} {W1 : S → va_W} {mc ms : Nat} (hy : plainFor y = true) (hnl : (lg_sl av).length ≤ nl) (lv : List (Nat × Value)) (hlv : lv_args 0 av = lv)
    (body : ∀ (p : Program) (e : Env) (s : State) (m : MethodId) (below : List Frame) (meth : Method) (c : Code), Cx p s m av.toArray c cy nl y.cls G tys (va_A W0 s.heap.size) → meth.sig.returnType = some .int → meth.locks = false → meth.name = y.name →
      ZZ p l e { frames := fr, cells := mc, slots := ms, locals := lo } s m av.toArray below meth c G (va_A W0 s.heap.size) nl 0 0 (MQ below (va_Qi post (fun u => cE G tys (va_A W0 s.heap.size) (W1 u)) (va_A W0 s.heap.size)) av.toArray s mc ms (va_A W0 s.heap.size)) W0 lv 0 []) : MI S l y cy nl fr lo G tys av W0 post W1 mc ms := by
  intro sz
  refine zMet_ofWF (cc := cy) (maxL := nl) (ret := some .int) hy rfl ?_
  intro p e s m args below meth c s₁ B hml hv
  obtain ⟨rfl, hsz, hP, hK, hD0, hN0, hT0⟩ := hv
  subst hsz
  have hts := atoms_spec (ws := Cond.code y cy nl (some .int) :: zAW) B.pre
  have hl := lv_entry av (n := nl) hnl
  rw [lg_entry_eq]
  exact body p e s m below meth c ⟨B.exec, B.bytes, hml, findClass_of_methodNamed B.named, fun w h => hts w (List.mem_cons_of_mem _ h), hK, fun q h => Or.inr h, hN0, hT0⟩ B.returns B.notSynchronized (name_of_methodNamed B.named B.method).1 s.heap [] _ hP hD0.self va_S.rf (hlv ▸ hl)
theorem z_calli {p : Program} {l : Launch} {e : Env} {R : Room} {s : State} {m : MethodId} {args : Array Value} {below : List Frame} {meth : Method} {c : Code} {cc : ByteArray} {nL : Nat} {own : String} {G : va_G} {tys : List (ClassId × FieldType)} {A : Nat → Prop} {cells slots : Nat} {Q : State → Prop} {ws : va_W} {lv : List (Nat × Value)} {pc n : Nat} {rest : List Value} (hC : Cx p s m args c cc nL own G tys A) {S : Type} {y : MethodName} {cy : ByteArray} {nl fr lo : Nat} {a : Nat} {As : List Value} {W0 : va_W} {post : Int32 → S → Prop} {W1 : S → va_W} {mc ms index k9 : Nat} {C : String} (hM : MI S l y cy nl fr lo G tys (.ref a :: As) W0 post W1 mc ms) (hg : GoodIn zAW (wsV own index C y (.code y cy nl (some .int) :: zAW))) (hd : y.cls = C ∧ y.cls ≠ "java/lang/invoke/MethodHandle" ∧ y.cls ≠ "java/lang/invoke/VarHandle" ∧ (parseMethodDescriptor y.desc).map (fun d => d.parameters.length) = some k9) (hdg : decode cc pc = .ok (.invokevirtual index, 3)) (hR : fr + 1 ≤ R.frames ∧ 8 + (nl + 11) + lo ≤ R.locals) (q0 : Nat) {ci : Nat} {fs : List Value} {qc : vw_C} (hcl : vwCl[ci]? = some qc) (hqc : qc.1 = C) (he : W0[q0]? = some (a, .inr (ci, fs))) (is : List Nat) (hCw : is.map (fun i => ws[i]?) = W0.map some) (hnd : va_nd is = true) (hnA : As.length = k9) (hcat : (rest.map fun v => v.category).sum ≤ 8) (hf : cells + mc ≤ R.cells ∧ slots + ms ≤ R.slots) {ws2 : S → va_W} (js : List Nat) (hAw : ∀ u, is.map (fun i => (ws2 u)[i]?) = (W1 u).map some) (WR : va_W) (hBw : ∀ u, js.map (fun i => (ws2 u)[i]?) = WR.map some) (hBo : js.map (fun i => ws[i]?) = WR.map some) (hcv : ∀ u, (List.range (ws2 u).length).all (fun k => is.contains k || js.contains k) = true) (ads : List Nat) (hadr : ∀ u, (W1 u).map Prod.fst = ads) (hadr0 : W0.map Prod.fst = ads) (hn : pc + 3 = n) {st0 : List Value} (hst : As.reverse ++ .ref a :: rest = st0) (kk : ∀ (r : Int32) (u : S), post r u → ZZ p l e R s m args below meth c G A nL (cells + mc) (slots + ms) Q (ws2 u) lv n (.int r :: rest)) : ZZ p l e R s m args below meth c G A nL cells slots Q ws lv pc st0 := by
  subst hn; subst hst
  intro H locs ls hP hD hS hl
  have hPc := wmap_P hP hCw
  have hDc := hD.sub is hnd hCw
  have hK := hC.2.2.2.2.2.1
  have hFc := va_free (wc := W0) hD hS hC.2.2.2.2.2.2.1 is hCw
  subst hqc
  refine va_calli (va_runV (C := qc.1) (As := As) (rest := rest) (Ts := zAW) ⟨hC.1, hC.2.1, hC.2.2.1, hC.2.2.2.1, hC.2.2.2.2.1⟩ (hM H.size) (cwV k9 hC.2.2.2.2.1 hg rfl rfl rfl hd hR) ⟨fun a' U g mk q => ⟨q.1, cW_moved q.2⟩, va_recv hK hPc hcl he, fun U hU hW => ⟨rfl, by rw [hU], by rw [hU]; exact hPc, va_K.moved hW.alike hK, hDc.weaken (fun _ _ _ _ => trivial), zN_warm hW hC.2.2.2.2.2.2.2.1, zT_to hW hU hS hFc hC.2.2.2.2.2.2.2.2⟩⟩ rfl hnA hl.1 rfl (lv_room hcat) hdg hf) hS (fun q _ h => hFc q h) hFc (fun r u t H1 locs1 ht hvm hw hB hz1 hk1 hS1 => by
    obtain ⟨hP2, hD2⟩ := wput_ok hP hD hCw ((hadr u).trans hadr0.symm) (wget_of (hAw u) ((hBw u).trans hBo.symm) (hcv u)) hk1 (ht ▸ hB.1)
    exact kk r u hw H1 locs1 ls hP2 hD2 hS1 hl)
theorem z_callsi {p : Program} {l : Launch} {e : Env} {R : Room} {s : State} {m : MethodId} {args : Array Value} {below : List Frame} {meth : Method} {c : Code} {cc : ByteArray} {nL : Nat} {own : String} {G : va_G} {tys : List (ClassId × FieldType)} {A : Nat → Prop} {cells slots : Nat} {Q : State → Prop} {ws : va_W} {lv : List (Nat × Value)} {pc n : Nat} {rest : List Value} (hC : Cx p s m args c cc nL own G tys A) {S : Type} {y : MethodName} {cy : ByteArray} {nl fr lo : Nat} {As : List Value} {W0 : va_W} {post : Int32 → S → Prop} {W1 : S → va_W} {mc ms index k9 : Nat} (hM : MI S l y cy nl fr lo G tys As W0 post W1 mc ms) (hg : GoodIn zAW (va_wsS own index y (.code y cy nl (some .int) :: zAW))) (hd : y.cls ≠ "java/lang/invoke/MethodHandle" ∧ y.cls ≠ "java/lang/invoke/VarHandle" ∧ (parseMethodDescriptor y.desc).map (fun d => d.parameters.length) = some k9) (hdg : decode cc pc = .ok (.invokestatic index, 3)) (hR : fr + 1 ≤ R.frames ∧ 8 + (nl + 11) + lo ≤ R.locals) (is : List Nat) (hCw : is.map (fun i => ws[i]?) = W0.map some) (hnd : va_nd is = true) (hnA : As.length = k9) (hcat : (rest.map fun v => v.category).sum ≤ 8) (hf : cells + mc ≤ R.cells ∧ slots + ms ≤ R.slots) {ws2 : S → va_W} (js : List Nat) (hAw : ∀ u, is.map (fun i => (ws2 u)[i]?) = (W1 u).map some) (WR : va_W) (hBw : ∀ u, js.map (fun i => (ws2 u)[i]?) = WR.map some) (hBo : js.map (fun i => ws[i]?) = WR.map some) (hcv : ∀ u, (List.range (ws2 u).length).all (fun k => is.contains k || js.contains k) = true) (ads : List Nat) (hadr : ∀ u, (W1 u).map Prod.fst = ads) (hadr0 : W0.map Prod.fst = ads) (hn : pc + 3 = n) {st0 : List Value} (hst : As.reverse ++ rest = st0) (kk : ∀ (r : Int32) (u : S), post r u → ZZ p l e R s m args below meth c G A nL (cells + mc) (slots + ms) Q (ws2 u) lv n (.int r :: rest)) : ZZ p l e R s m args below meth c G A nL cells slots Q ws lv pc st0 := by
  subst hn; subst hst
  intro H locs ls hP hD hS hl
  have hPc := wmap_P hP hCw
  have hDc := hD.sub is hnd hCw
  have hK := hC.2.2.2.2.2.1
  have hFc := va_free (wc := W0) hD hS hC.2.2.2.2.2.2.1 is hCw
  refine va_calli (va_runS (As := As) (rest := rest) (Ts := zAW) ⟨hC.1, hC.2.1, hC.2.2.1, hC.2.2.2.1, hC.2.2.2.2.1⟩ (hM H.size) (va_cwS k9 hC.2.2.2.2.1 hg rfl rfl rfl hd hR) ⟨fun a' U g mk q => ⟨q.1, cW_moved q.2⟩, fun U hU hW => ⟨rfl, by rw [hU], by rw [hU]; exact hPc, va_K.moved hW.alike hK, hDc.weaken (fun _ _ _ _ => trivial), zN_warm hW hC.2.2.2.2.2.2.2.1, zT_to hW hU hS hFc hC.2.2.2.2.2.2.2.2⟩⟩ rfl hnA hl.1 rfl (lv_room hcat) hdg hf) hS (fun q _ h => hFc q h) hFc (fun r u t H1 locs1 ht hvm hw hB hz1 hk1 hS1 => by
    obtain ⟨hP2, hD2⟩ := wput_ok hP hD hCw ((hadr u).trans hadr0.symm) (wget_of (hAw u) ((hBw u).trans hBo.symm) (hcv u)) hk1 (ht ▸ hB.1)
    exact kk r u hw H1 locs1 ls hP2 hD2 hS1 hl)
theorem z_callsiN {p : Program} {l : Launch} {e : Env} {R : Room} {s : State} {m : MethodId} {args : Array Value} {below : List Frame} {meth : Method} {c : Code} {cc : ByteArray} {nL : Nat} {own : String} {G : va_G} {tys : List (ClassId × FieldType)} {A : Nat → Prop} {cells slots : Nat} {Q : State → Prop} {ws : va_W} {lv : List (Nat × Value)} {pc n : Nat} {rest : List Value} (hC : Cx p s m args c cc nL own G tys A) {S : Type} {y : MethodName} {cy : ByteArray} {nl fr lo : Nat} {As : List Value} {W0 : va_W} {post : Int32 → S → Prop} {W1 : S → va_W} {mc ms index k9 : Nat} (hM : MI S l y cy nl fr lo G tys As W0 post W1 mc ms) (hg : GoodIn zAW (.code y cy nl (some .int) :: zAW)) (hne : Cond.methodLinkNest own index y RX2 ∈ zNW) (hsx : Cond.static y ∈ zAW) (hix : Cond.initialized y.cls ∈ zAW) (hd : y.cls ≠ "java/lang/invoke/MethodHandle" ∧ y.cls ≠ "java/lang/invoke/VarHandle" ∧ (parseMethodDescriptor y.desc).map (fun d => d.parameters.length) = some k9) (hdg : decode cc pc = .ok (.invokestatic index, 3)) (hR : fr + 1 ≤ R.frames ∧ 8 + (nl + 11) + lo ≤ R.locals) (is : List Nat) (hCw : is.map (fun i => ws[i]?) = W0.map some) (hnd : va_nd is = true) (hnA : As.length = k9) (hcat : (rest.map fun v => v.category).sum ≤ 8) (hf : cells + mc ≤ R.cells ∧ slots + ms ≤ R.slots) {ws2 : S → va_W} (js : List Nat) (hAw : ∀ u, is.map (fun i => (ws2 u)[i]?) = (W1 u).map some) (WR : va_W) (hBw : ∀ u, js.map (fun i => (ws2 u)[i]?) = WR.map some) (hBo : js.map (fun i => ws[i]?) = WR.map some) (hcv : ∀ u, (List.range (ws2 u).length).all (fun k => is.contains k || js.contains k) = true) (ads : List Nat) (hadr : ∀ u, (W1 u).map Prod.fst = ads) (hadr0 : W0.map Prod.fst = ads) (hn : pc + 3 = n) {st0 : List Value} (hst : As.reverse ++ rest = st0) (kk : ∀ (r : Int32) (u : S), post r u → ZZ p l e R s m args below meth c G A nL (cells + mc) (slots + ms) Q (ws2 u) lv n (.int r :: rest)) : ZZ p l e R s m args below meth c G A nL cells slots Q ws lv pc st0 := by
  subst hn; subst hst
  intro H locs ls hP hD hS hl
  have hPc := wmap_P hP hCw
  have hDc := hD.sub is hnd hCw
  have hK := hC.2.2.2.2.2.1
  have hFc := va_free (wc := W0) hD hS hC.2.2.2.2.2.2.1 is hCw
  refine va_calli (va_runSN (As := As) (rest := rest) (Ts := zAW) ⟨hC.1, hC.2.1, hC.2.2.1, hC.2.2.2.1, hC.2.2.2.2.1⟩ (hM H.size) ⟨va_cnB k9 hC.2.2.2.2.1 hg rfl rfl rfl (hC.2.2.2.2.2.2.2.1.1 _ hne) (hC.2.2.2.2.1 _ hix) hd hR, hC.2.2.2.2.1 _ hsx, trivial⟩ ⟨fun a' U g mk q => ⟨q.1, cW_moved q.2⟩, fun U hU hW => ⟨rfl, by rw [hU], by rw [hU]; exact hPc, va_K.moved hW.alike hK, hDc.weaken (fun _ _ _ _ => trivial), zN_warm hW hC.2.2.2.2.2.2.2.1, zT_to hW hU hS hFc hC.2.2.2.2.2.2.2.2⟩⟩ rfl hnA hl.1 rfl (lv_room hcat) hdg hf) hS (fun q _ h => hFc q h) hFc (fun r u t H1 locs1 ht hvm hw hB hz1 hk1 hS1 => by
    obtain ⟨hP2, hD2⟩ := wput_ok hP hD hCw ((hadr u).trans hadr0.symm) (wget_of (hAw u) ((hBw u).trans hBo.symm) (hcv u)) hk1 (ht ▸ hB.1)
    exact kk r u hw H1 locs1 ls hP2 hD2 hS1 hl)
theorem z_callb {p : Program} {l : Launch} {e : Env} {R : Room} {s : State} {m : MethodId} {args : Array Value} {below : List Frame} {meth : Method} {c : Code} {cc : ByteArray} {nL : Nat} {own : String} {G : va_G} {tys : List (ClassId × FieldType)} {A : Nat → Prop} {cells slots : Nat} {Q : State → Prop} {ws : va_W} {lv : List (Nat × Value)} {pc n : Nat} {rest : List Value} (hC : Cx p s m args c cc nL own G tys A) {S : Type} {y : MethodName} {cy : ByteArray} {nl fr lo : Nat} {a : Nat} {As : List Value} {W0 : va_W} {post : Int32 → S → Prop} {W1 : S → va_W} {mc ms index k9 : Nat} {C : String} (hM : MB S l y cy nl fr lo G tys (.ref a :: As) W0 post W1 mc ms) (hg : GoodIn zAW (wsV own index C y (.code y cy nl (some .boolean) :: zAW))) (hd : y.cls = C ∧ y.cls ≠ "java/lang/invoke/MethodHandle" ∧ y.cls ≠ "java/lang/invoke/VarHandle" ∧ (parseMethodDescriptor y.desc).map (fun d => d.parameters.length) = some k9) (hdg : decode cc pc = .ok (.invokevirtual index, 3)) (hR : fr + 1 ≤ R.frames ∧ 8 + (nl + 11) + lo ≤ R.locals) (q0 : Nat) {ci : Nat} {fs : List Value} {qc : vw_C} (hcl : vwCl[ci]? = some qc) (hqc : qc.1 = C) (he : W0[q0]? = some (a, .inr (ci, fs))) (is : List Nat) (hCw : is.map (fun i => ws[i]?) = W0.map some) (hnd : va_nd is = true) (hnA : As.length = k9) (hcat : (rest.map fun v => v.category).sum ≤ 8) (hf : cells + mc ≤ R.cells ∧ slots + ms ≤ R.slots) {ws2 : S → va_W} (js : List Nat) (hAw : ∀ u, is.map (fun i => (ws2 u)[i]?) = (W1 u).map some) (WR : va_W) (hBw : ∀ u, js.map (fun i => (ws2 u)[i]?) = WR.map some) (hBo : js.map (fun i => ws[i]?) = WR.map some) (hcv : ∀ u, (List.range (ws2 u).length).all (fun k => is.contains k || js.contains k) = true) (ads : List Nat) (hadr : ∀ u, (W1 u).map Prod.fst = ads) (hadr0 : W0.map Prod.fst = ads) (hn : pc + 3 = n) {st0 : List Value} (hst : As.reverse ++ .ref a :: rest = st0) (kk : ∀ (r : Int32) (u : S), post r u → ZZ p l e R s m args below meth c G A nL (cells + mc) (slots + ms) Q (ws2 u) lv n (.int r :: rest)) : ZZ p l e R s m args below meth c G A nL cells slots Q ws lv pc st0 := by
  subst hn; subst hst
  intro H locs ls hP hD hS hl
  have hPc := wmap_P hP hCw
  have hDc := hD.sub is hnd hCw
  have hK := hC.2.2.2.2.2.1
  have hFc := va_free (wc := W0) hD hS hC.2.2.2.2.2.2.1 is hCw
  subst hqc
  refine va_calli (va_runV (C := qc.1) (As := As) (rest := rest) (Ts := zAW) ⟨hC.1, hC.2.1, hC.2.2.1, hC.2.2.2.1, hC.2.2.2.2.1⟩ (hM H.size) (cwV k9 hC.2.2.2.2.1 hg rfl rfl rfl hd hR) ⟨fun a' U g mk q => ⟨q.1, cW_moved q.2⟩, va_recv hK hPc hcl he, fun U hU hW => ⟨rfl, by rw [hU], by rw [hU]; exact hPc, va_K.moved hW.alike hK, hDc.weaken (fun _ _ _ _ => trivial), zN_warm hW hC.2.2.2.2.2.2.2.1, zT_to hW hU hS hFc hC.2.2.2.2.2.2.2.2⟩⟩ rfl hnA hl.1 rfl (lv_room hcat) hdg hf) hS (fun q _ h => hFc q h) hFc (fun r u t H1 locs1 ht hvm hw hB hz1 hk1 hS1 => by
    obtain ⟨hP2, hD2⟩ := wput_ok hP hD hCw ((hadr u).trans hadr0.symm) (wget_of (hAw u) ((hBw u).trans hBo.symm) (hcv u)) hk1 (ht ▸ hB.1)
    exact kk r u hw H1 locs1 ls hP2 hD2 hS1 hl)
theorem z_callsb {p : Program} {l : Launch} {e : Env} {R : Room} {s : State} {m : MethodId} {args : Array Value} {below : List Frame} {meth : Method} {c : Code} {cc : ByteArray} {nL : Nat} {own : String} {G : va_G} {tys : List (ClassId × FieldType)} {A : Nat → Prop} {cells slots : Nat} {Q : State → Prop} {ws : va_W} {lv : List (Nat × Value)} {pc n : Nat} {rest : List Value} (hC : Cx p s m args c cc nL own G tys A) {S : Type} {y : MethodName} {cy : ByteArray} {nl fr lo : Nat} {As : List Value} {W0 : va_W} {post : Int32 → S → Prop} {W1 : S → va_W} {mc ms index k9 : Nat} (hM : MB S l y cy nl fr lo G tys As W0 post W1 mc ms) (hg : GoodIn zAW (va_wsS own index y (.code y cy nl (some .boolean) :: zAW))) (hd : y.cls ≠ "java/lang/invoke/MethodHandle" ∧ y.cls ≠ "java/lang/invoke/VarHandle" ∧ (parseMethodDescriptor y.desc).map (fun d => d.parameters.length) = some k9) (hdg : decode cc pc = .ok (.invokestatic index, 3)) (hR : fr + 1 ≤ R.frames ∧ 8 + (nl + 11) + lo ≤ R.locals) (is : List Nat) (hCw : is.map (fun i => ws[i]?) = W0.map some) (hnd : va_nd is = true) (hnA : As.length = k9) (hcat : (rest.map fun v => v.category).sum ≤ 8) (hf : cells + mc ≤ R.cells ∧ slots + ms ≤ R.slots) {ws2 : S → va_W} (js : List Nat) (hAw : ∀ u, is.map (fun i => (ws2 u)[i]?) = (W1 u).map some) (WR : va_W) (hBw : ∀ u, js.map (fun i => (ws2 u)[i]?) = WR.map some) (hBo : js.map (fun i => ws[i]?) = WR.map some) (hcv : ∀ u, (List.range (ws2 u).length).all (fun k => is.contains k || js.contains k) = true) (ads : List Nat) (hadr : ∀ u, (W1 u).map Prod.fst = ads) (hadr0 : W0.map Prod.fst = ads) (hn : pc + 3 = n) {st0 : List Value} (hst : As.reverse ++ rest = st0) (kk : ∀ (r : Int32) (u : S), post r u → ZZ p l e R s m args below meth c G A nL (cells + mc) (slots + ms) Q (ws2 u) lv n (.int r :: rest)) : ZZ p l e R s m args below meth c G A nL cells slots Q ws lv pc st0 := by
  subst hn; subst hst
  intro H locs ls hP hD hS hl
  have hPc := wmap_P hP hCw
  have hDc := hD.sub is hnd hCw
  have hK := hC.2.2.2.2.2.1
  have hFc := va_free (wc := W0) hD hS hC.2.2.2.2.2.2.1 is hCw
  refine va_calli (va_runS (As := As) (rest := rest) (Ts := zAW) ⟨hC.1, hC.2.1, hC.2.2.1, hC.2.2.2.1, hC.2.2.2.2.1⟩ (hM H.size) (va_cwS k9 hC.2.2.2.2.1 hg rfl rfl rfl hd hR) ⟨fun a' U g mk q => ⟨q.1, cW_moved q.2⟩, fun U hU hW => ⟨rfl, by rw [hU], by rw [hU]; exact hPc, va_K.moved hW.alike hK, hDc.weaken (fun _ _ _ _ => trivial), zN_warm hW hC.2.2.2.2.2.2.2.1, zT_to hW hU hS hFc hC.2.2.2.2.2.2.2.2⟩⟩ rfl hnA hl.1 rfl (lv_room hcat) hdg hf) hS (fun q _ h => hFc q h) hFc (fun r u t H1 locs1 ht hvm hw hB hz1 hk1 hS1 => by
    obtain ⟨hP2, hD2⟩ := wput_ok hP hD hCw ((hadr u).trans hadr0.symm) (wget_of (hAw u) ((hBw u).trans hBo.symm) (hcv u)) hk1 (ht ▸ hB.1)
    exact kk r u hw H1 locs1 ls hP2 hD2 hS1 hl)
theorem z_calll {p : Program} {l : Launch} {e : Env} {R : Room} {s : State} {m : MethodId} {args : Array Value} {below : List Frame} {meth : Method} {c : Code} {cc : ByteArray} {nL : Nat} {own : String} {G : va_G} {tys : List (ClassId × FieldType)} {A : Nat → Prop} {cells slots : Nat} {Q : State → Prop} {ws : va_W} {lv : List (Nat × Value)} {pc n : Nat} {rest : List Value} (hC : Cx p s m args c cc nL own G tys A) {S : Type} {y : MethodName} {cy : ByteArray} {nl fr lo : Nat} {a : Nat} {As : List Value} {W0 : va_W} {post : Int64 → S → Prop} {W1 : S → va_W} {mc ms index k9 : Nat} {C : String} (hM : ML S l y cy nl fr lo G tys (.ref a :: As) W0 post W1 mc ms) (hg : GoodIn zAW (wsV own index C y (.code y cy nl (some .long) :: zAW))) (hd : y.cls = C ∧ y.cls ≠ "java/lang/invoke/MethodHandle" ∧ y.cls ≠ "java/lang/invoke/VarHandle" ∧ (parseMethodDescriptor y.desc).map (fun d => d.parameters.length) = some k9) (hdg : decode cc pc = .ok (.invokevirtual index, 3)) (hR : fr + 1 ≤ R.frames ∧ 8 + (nl + 11) + lo ≤ R.locals) (q0 : Nat) {ci : Nat} {fs : List Value} {qc : vw_C} (hcl : vwCl[ci]? = some qc) (hqc : qc.1 = C) (he : W0[q0]? = some (a, .inr (ci, fs))) (is : List Nat) (hCw : is.map (fun i => ws[i]?) = W0.map some) (hnd : va_nd is = true) (hnA : As.length = k9) (hcat : (rest.map fun v => v.category).sum ≤ 8) (hf : cells + mc ≤ R.cells ∧ slots + ms ≤ R.slots) {ws2 : S → va_W} (js : List Nat) (hAw : ∀ u, is.map (fun i => (ws2 u)[i]?) = (W1 u).map some) (WR : va_W) (hBw : ∀ u, js.map (fun i => (ws2 u)[i]?) = WR.map some) (hBo : js.map (fun i => ws[i]?) = WR.map some) (hcv : ∀ u, (List.range (ws2 u).length).all (fun k => is.contains k || js.contains k) = true) (ads : List Nat) (hadr : ∀ u, (W1 u).map Prod.fst = ads) (hadr0 : W0.map Prod.fst = ads) (hn : pc + 3 = n) {st0 : List Value} (hst : As.reverse ++ .ref a :: rest = st0) (kk : ∀ (r : Int64) (u : S), post r u → ZZ p l e R s m args below meth c G A nL (cells + mc) (slots + ms) Q (ws2 u) lv n (.long r :: rest)) : ZZ p l e R s m args below meth c G A nL cells slots Q ws lv pc st0 := by
  subst hn; subst hst
  intro H locs ls hP hD hS hl
  have hPc := wmap_P hP hCw
  have hDc := hD.sub is hnd hCw
  have hK := hC.2.2.2.2.2.1
  have hFc := va_free (wc := W0) hD hS hC.2.2.2.2.2.2.1 is hCw
  subst hqc
  refine va_calll (va_runV (C := qc.1) (As := As) (rest := rest) (Ts := zAW) ⟨hC.1, hC.2.1, hC.2.2.1, hC.2.2.2.1, hC.2.2.2.2.1⟩ (hM H.size) (cwV k9 hC.2.2.2.2.1 hg rfl rfl rfl hd hR) ⟨fun a' U g mk q => ⟨q.1, cW_moved q.2⟩, va_recv hK hPc hcl he, fun U hU hW => ⟨rfl, by rw [hU], by rw [hU]; exact hPc, va_K.moved hW.alike hK, hDc.weaken (fun _ _ _ _ => trivial), zN_warm hW hC.2.2.2.2.2.2.2.1, zT_to hW hU hS hFc hC.2.2.2.2.2.2.2.2⟩⟩ rfl hnA hl.1 rfl (lv_room hcat) hdg hf) hS (fun q _ h => hFc q h) hFc (fun r u t H1 locs1 ht hvm hw hB hz1 hk1 hS1 => by
    obtain ⟨hP2, hD2⟩ := wput_ok hP hD hCw ((hadr u).trans hadr0.symm) (wget_of (hAw u) ((hBw u).trans hBo.symm) (hcv u)) hk1 (ht ▸ hB.1)
    exact kk r u hw H1 locs1 ls hP2 hD2 hS1 hl)
theorem z_callsl {p : Program} {l : Launch} {e : Env} {R : Room} {s : State} {m : MethodId} {args : Array Value} {below : List Frame} {meth : Method} {c : Code} {cc : ByteArray} {nL : Nat} {own : String} {G : va_G} {tys : List (ClassId × FieldType)} {A : Nat → Prop} {cells slots : Nat} {Q : State → Prop} {ws : va_W} {lv : List (Nat × Value)} {pc n : Nat} {rest : List Value} (hC : Cx p s m args c cc nL own G tys A) {S : Type} {y : MethodName} {cy : ByteArray} {nl fr lo : Nat} {As : List Value} {W0 : va_W} {post : Int64 → S → Prop} {W1 : S → va_W} {mc ms index k9 : Nat} (hM : ML S l y cy nl fr lo G tys As W0 post W1 mc ms) (hg : GoodIn zAW (va_wsS own index y (.code y cy nl (some .long) :: zAW))) (hd : y.cls ≠ "java/lang/invoke/MethodHandle" ∧ y.cls ≠ "java/lang/invoke/VarHandle" ∧ (parseMethodDescriptor y.desc).map (fun d => d.parameters.length) = some k9) (hdg : decode cc pc = .ok (.invokestatic index, 3)) (hR : fr + 1 ≤ R.frames ∧ 8 + (nl + 11) + lo ≤ R.locals) (is : List Nat) (hCw : is.map (fun i => ws[i]?) = W0.map some) (hnd : va_nd is = true) (hnA : As.length = k9) (hcat : (rest.map fun v => v.category).sum ≤ 8) (hf : cells + mc ≤ R.cells ∧ slots + ms ≤ R.slots) {ws2 : S → va_W} (js : List Nat) (hAw : ∀ u, is.map (fun i => (ws2 u)[i]?) = (W1 u).map some) (WR : va_W) (hBw : ∀ u, js.map (fun i => (ws2 u)[i]?) = WR.map some) (hBo : js.map (fun i => ws[i]?) = WR.map some) (hcv : ∀ u, (List.range (ws2 u).length).all (fun k => is.contains k || js.contains k) = true) (ads : List Nat) (hadr : ∀ u, (W1 u).map Prod.fst = ads) (hadr0 : W0.map Prod.fst = ads) (hn : pc + 3 = n) {st0 : List Value} (hst : As.reverse ++ rest = st0) (kk : ∀ (r : Int64) (u : S), post r u → ZZ p l e R s m args below meth c G A nL (cells + mc) (slots + ms) Q (ws2 u) lv n (.long r :: rest)) : ZZ p l e R s m args below meth c G A nL cells slots Q ws lv pc st0 := by
  subst hn; subst hst
  intro H locs ls hP hD hS hl
  have hPc := wmap_P hP hCw
  have hDc := hD.sub is hnd hCw
  have hK := hC.2.2.2.2.2.1
  have hFc := va_free (wc := W0) hD hS hC.2.2.2.2.2.2.1 is hCw
  refine va_calll (va_runS (As := As) (rest := rest) (Ts := zAW) ⟨hC.1, hC.2.1, hC.2.2.1, hC.2.2.2.1, hC.2.2.2.2.1⟩ (hM H.size) (va_cwS k9 hC.2.2.2.2.1 hg rfl rfl rfl hd hR) ⟨fun a' U g mk q => ⟨q.1, cW_moved q.2⟩, fun U hU hW => ⟨rfl, by rw [hU], by rw [hU]; exact hPc, va_K.moved hW.alike hK, hDc.weaken (fun _ _ _ _ => trivial), zN_warm hW hC.2.2.2.2.2.2.2.1, zT_to hW hU hS hFc hC.2.2.2.2.2.2.2.2⟩⟩ rfl hnA hl.1 rfl (lv_room hcat) hdg hf) hS (fun q _ h => hFc q h) hFc (fun r u t H1 locs1 ht hvm hw hB hz1 hk1 hS1 => by
    obtain ⟨hP2, hD2⟩ := wput_ok hP hD hCw ((hadr u).trans hadr0.symm) (wget_of (hAw u) ((hBw u).trans hBo.symm) (hcv u)) hk1 (ht ▸ hB.1)
    exact kk r u hw H1 locs1 ls hP2 hD2 hS1 hl)
theorem z_calld {p : Program} {l : Launch} {e : Env} {R : Room} {s : State} {m : MethodId} {args : Array Value} {below : List Frame} {meth : Method} {c : Code} {cc : ByteArray} {nL : Nat} {own : String} {G : va_G} {tys : List (ClassId × FieldType)} {A : Nat → Prop} {cells slots : Nat} {Q : State → Prop} {ws : va_W} {lv : List (Nat × Value)} {pc n : Nat} {rest : List Value} (hC : Cx p s m args c cc nL own G tys A) {S : Type} {y : MethodName} {cy : ByteArray} {nl fr lo : Nat} {a : Nat} {As : List Value} {W0 : va_W} {post : UInt64 → S → Prop} {W1 : S → va_W} {mc ms index k9 : Nat} {C : String} (hM : MD S l y cy nl fr lo G tys (.ref a :: As) W0 post W1 mc ms) (hg : GoodIn zAW (wsV own index C y (.code y cy nl (some .double) :: zAW))) (hd : y.cls = C ∧ y.cls ≠ "java/lang/invoke/MethodHandle" ∧ y.cls ≠ "java/lang/invoke/VarHandle" ∧ (parseMethodDescriptor y.desc).map (fun d => d.parameters.length) = some k9) (hdg : decode cc pc = .ok (.invokevirtual index, 3)) (hR : fr + 1 ≤ R.frames ∧ 8 + (nl + 11) + lo ≤ R.locals) (q0 : Nat) {ci : Nat} {fs : List Value} {qc : vw_C} (hcl : vwCl[ci]? = some qc) (hqc : qc.1 = C) (he : W0[q0]? = some (a, .inr (ci, fs))) (is : List Nat) (hCw : is.map (fun i => ws[i]?) = W0.map some) (hnd : va_nd is = true) (hnA : As.length = k9) (hcat : (rest.map fun v => v.category).sum ≤ 8) (hf : cells + mc ≤ R.cells ∧ slots + ms ≤ R.slots) {ws2 : S → va_W} (js : List Nat) (hAw : ∀ u, is.map (fun i => (ws2 u)[i]?) = (W1 u).map some) (WR : va_W) (hBw : ∀ u, js.map (fun i => (ws2 u)[i]?) = WR.map some) (hBo : js.map (fun i => ws[i]?) = WR.map some) (hcv : ∀ u, (List.range (ws2 u).length).all (fun k => is.contains k || js.contains k) = true) (ads : List Nat) (hadr : ∀ u, (W1 u).map Prod.fst = ads) (hadr0 : W0.map Prod.fst = ads) (hn : pc + 3 = n) {st0 : List Value} (hst : As.reverse ++ .ref a :: rest = st0) (kk : ∀ (r : UInt64) (u : S), post r u → ZZ p l e R s m args below meth c G A nL (cells + mc) (slots + ms) Q (ws2 u) lv n (.double r :: rest)) : ZZ p l e R s m args below meth c G A nL cells slots Q ws lv pc st0 := by
  subst hn; subst hst
  intro H locs ls hP hD hS hl
  have hPc := wmap_P hP hCw
  have hDc := hD.sub is hnd hCw
  have hK := hC.2.2.2.2.2.1
  have hFc := va_free (wc := W0) hD hS hC.2.2.2.2.2.2.1 is hCw
  subst hqc
  refine va_calld (va_runV (C := qc.1) (As := As) (rest := rest) (Ts := zAW) ⟨hC.1, hC.2.1, hC.2.2.1, hC.2.2.2.1, hC.2.2.2.2.1⟩ (hM H.size) (cwV k9 hC.2.2.2.2.1 hg rfl rfl rfl hd hR) ⟨fun a' U g mk q => ⟨q.1, cW_moved q.2⟩, va_recv hK hPc hcl he, fun U hU hW => ⟨rfl, by rw [hU], by rw [hU]; exact hPc, va_K.moved hW.alike hK, hDc.weaken (fun _ _ _ _ => trivial), zN_warm hW hC.2.2.2.2.2.2.2.1, zT_to hW hU hS hFc hC.2.2.2.2.2.2.2.2⟩⟩ rfl hnA hl.1 rfl (lv_room hcat) hdg hf) hS (fun q _ h => hFc q h) hFc (fun r u t H1 locs1 ht hvm hw hB hz1 hk1 hS1 => by
    obtain ⟨hP2, hD2⟩ := wput_ok hP hD hCw ((hadr u).trans hadr0.symm) (wget_of (hAw u) ((hBw u).trans hBo.symm) (hcv u)) hk1 (ht ▸ hB.1)
    exact kk r u hw H1 locs1 ls hP2 hD2 hS1 hl)
theorem z_callsd {p : Program} {l : Launch} {e : Env} {R : Room} {s : State} {m : MethodId} {args : Array Value} {below : List Frame} {meth : Method} {c : Code} {cc : ByteArray} {nL : Nat} {own : String} {G : va_G} {tys : List (ClassId × FieldType)} {A : Nat → Prop} {cells slots : Nat} {Q : State → Prop} {ws : va_W} {lv : List (Nat × Value)} {pc n : Nat} {rest : List Value} (hC : Cx p s m args c cc nL own G tys A) {S : Type} {y : MethodName} {cy : ByteArray} {nl fr lo : Nat} {As : List Value} {W0 : va_W} {post : UInt64 → S → Prop} {W1 : S → va_W} {mc ms index k9 : Nat} (hM : MD S l y cy nl fr lo G tys As W0 post W1 mc ms) (hg : GoodIn zAW (va_wsS own index y (.code y cy nl (some .double) :: zAW))) (hd : y.cls ≠ "java/lang/invoke/MethodHandle" ∧ y.cls ≠ "java/lang/invoke/VarHandle" ∧ (parseMethodDescriptor y.desc).map (fun d => d.parameters.length) = some k9) (hdg : decode cc pc = .ok (.invokestatic index, 3)) (hR : fr + 1 ≤ R.frames ∧ 8 + (nl + 11) + lo ≤ R.locals) (is : List Nat) (hCw : is.map (fun i => ws[i]?) = W0.map some) (hnd : va_nd is = true) (hnA : As.length = k9) (hcat : (rest.map fun v => v.category).sum ≤ 8) (hf : cells + mc ≤ R.cells ∧ slots + ms ≤ R.slots) {ws2 : S → va_W} (js : List Nat) (hAw : ∀ u, is.map (fun i => (ws2 u)[i]?) = (W1 u).map some) (WR : va_W) (hBw : ∀ u, js.map (fun i => (ws2 u)[i]?) = WR.map some) (hBo : js.map (fun i => ws[i]?) = WR.map some) (hcv : ∀ u, (List.range (ws2 u).length).all (fun k => is.contains k || js.contains k) = true) (ads : List Nat) (hadr : ∀ u, (W1 u).map Prod.fst = ads) (hadr0 : W0.map Prod.fst = ads) (hn : pc + 3 = n) {st0 : List Value} (hst : As.reverse ++ rest = st0) (kk : ∀ (r : UInt64) (u : S), post r u → ZZ p l e R s m args below meth c G A nL (cells + mc) (slots + ms) Q (ws2 u) lv n (.double r :: rest)) : ZZ p l e R s m args below meth c G A nL cells slots Q ws lv pc st0 := by
  subst hn; subst hst
  intro H locs ls hP hD hS hl
  have hPc := wmap_P hP hCw
  have hDc := hD.sub is hnd hCw
  have hK := hC.2.2.2.2.2.1
  have hFc := va_free (wc := W0) hD hS hC.2.2.2.2.2.2.1 is hCw
  refine va_calld (va_runS (As := As) (rest := rest) (Ts := zAW) ⟨hC.1, hC.2.1, hC.2.2.1, hC.2.2.2.1, hC.2.2.2.2.1⟩ (hM H.size) (va_cwS k9 hC.2.2.2.2.1 hg rfl rfl rfl hd hR) ⟨fun a' U g mk q => ⟨q.1, cW_moved q.2⟩, fun U hU hW => ⟨rfl, by rw [hU], by rw [hU]; exact hPc, va_K.moved hW.alike hK, hDc.weaken (fun _ _ _ _ => trivial), zN_warm hW hC.2.2.2.2.2.2.2.1, zT_to hW hU hS hFc hC.2.2.2.2.2.2.2.2⟩⟩ rfl hnA hl.1 rfl (lv_room hcat) hdg hf) hS (fun q _ h => hFc q h) hFc (fun r u t H1 locs1 ht hvm hw hB hz1 hk1 hS1 => by
    obtain ⟨hP2, hD2⟩ := wput_ok hP hD hCw ((hadr u).trans hadr0.symm) (wget_of (hAw u) ((hBw u).trans hBo.symm) (hcv u)) hk1 (ht ▸ hB.1)
    exact kk r u hw H1 locs1 ls hP2 hD2 hS1 hl)
theorem z_callv {p : Program} {l : Launch} {e : Env} {R : Room} {s : State} {m : MethodId} {args : Array Value} {below : List Frame} {meth : Method} {c : Code} {cc : ByteArray} {nL : Nat} {own : String} {G : va_G} {tys : List (ClassId × FieldType)} {A : Nat → Prop} {cells slots : Nat} {Q : State → Prop} {ws : va_W} {lv : List (Nat × Value)} {pc n : Nat} {rest : List Value} (hC : Cx p s m args c cc nL own G tys A) {S : Type} {y : MethodName} {cy : ByteArray} {nl fr lo : Nat} {a : Nat} {As : List Value} {W0 : va_W} {post : S → Prop} {W1 : S → va_W} {mc ms index k9 : Nat} {C : String} (hM : MV S l y cy nl fr lo G tys (.ref a :: As) W0 post W1 mc ms) (hg : GoodIn zAW (wsV own index C y (.code y cy nl (none) :: zAW))) (hd : y.cls = C ∧ y.cls ≠ "java/lang/invoke/MethodHandle" ∧ y.cls ≠ "java/lang/invoke/VarHandle" ∧ (parseMethodDescriptor y.desc).map (fun d => d.parameters.length) = some k9) (hdg : decode cc pc = .ok (.invokevirtual index, 3)) (hR : fr + 1 ≤ R.frames ∧ 8 + (nl + 11) + lo ≤ R.locals) (q0 : Nat) {ci : Nat} {fs : List Value} {qc : vw_C} (hcl : vwCl[ci]? = some qc) (hqc : qc.1 = C) (he : W0[q0]? = some (a, .inr (ci, fs))) (is : List Nat) (hCw : is.map (fun i => ws[i]?) = W0.map some) (hnd : va_nd is = true) (hnA : As.length = k9) (hcat : (rest.map fun v => v.category).sum ≤ 8) (hf : cells + mc ≤ R.cells ∧ slots + ms ≤ R.slots) {ws2 : S → va_W} (js : List Nat) (hAw : ∀ u, is.map (fun i => (ws2 u)[i]?) = (W1 u).map some) (WR : va_W) (hBw : ∀ u, js.map (fun i => (ws2 u)[i]?) = WR.map some) (hBo : js.map (fun i => ws[i]?) = WR.map some) (hcv : ∀ u, (List.range (ws2 u).length).all (fun k => is.contains k || js.contains k) = true) (ads : List Nat) (hadr : ∀ u, (W1 u).map Prod.fst = ads) (hadr0 : W0.map Prod.fst = ads) (hn : pc + 3 = n) {st0 : List Value} (hst : As.reverse ++ .ref a :: rest = st0) (kk : ∀ (u : S), post u → ZZ p l e R s m args below meth c G A nL (cells + mc) (slots + ms) Q (ws2 u) lv n rest) : ZZ p l e R s m args below meth c G A nL cells slots Q ws lv pc st0 := by
  subst hn; subst hst
  intro H locs ls hP hD hS hl
  have hPc := wmap_P hP hCw
  have hDc := hD.sub is hnd hCw
  have hK := hC.2.2.2.2.2.1
  have hFc := va_free (wc := W0) hD hS hC.2.2.2.2.2.2.1 is hCw
  subst hqc
  refine va_callv (va_runV (C := qc.1) (As := As) (rest := rest) (Ts := zAW) ⟨hC.1, hC.2.1, hC.2.2.1, hC.2.2.2.1, hC.2.2.2.2.1⟩ (hM H.size) (cwV k9 hC.2.2.2.2.1 hg rfl rfl rfl hd hR) ⟨fun a' U g mk q => ⟨q.1, cW_moved q.2⟩, va_recv hK hPc hcl he, fun U hU hW => ⟨rfl, by rw [hU], by rw [hU]; exact hPc, va_K.moved hW.alike hK, hDc.weaken (fun _ _ _ _ => trivial), zN_warm hW hC.2.2.2.2.2.2.2.1, zT_to hW hU hS hFc hC.2.2.2.2.2.2.2.2⟩⟩ rfl hnA hl.1 rfl (lv_room hcat) hdg hf) hS (fun q _ h => hFc q h) hFc (fun u t H1 locs1 ht hvm hw hB hz1 hk1 hS1 => by
    obtain ⟨hP2, hD2⟩ := wput_ok hP hD hCw ((hadr u).trans hadr0.symm) (wget_of (hAw u) ((hBw u).trans hBo.symm) (hcv u)) hk1 (ht ▸ hB.1)
    exact kk u hw H1 locs1 ls hP2 hD2 hS1 hl)
theorem z_callsv {p : Program} {l : Launch} {e : Env} {R : Room} {s : State} {m : MethodId} {args : Array Value} {below : List Frame} {meth : Method} {c : Code} {cc : ByteArray} {nL : Nat} {own : String} {G : va_G} {tys : List (ClassId × FieldType)} {A : Nat → Prop} {cells slots : Nat} {Q : State → Prop} {ws : va_W} {lv : List (Nat × Value)} {pc n : Nat} {rest : List Value} (hC : Cx p s m args c cc nL own G tys A) {S : Type} {y : MethodName} {cy : ByteArray} {nl fr lo : Nat} {As : List Value} {W0 : va_W} {post : S → Prop} {W1 : S → va_W} {mc ms index k9 : Nat} (hM : MV S l y cy nl fr lo G tys As W0 post W1 mc ms) (hg : GoodIn zAW (va_wsS own index y (.code y cy nl (none) :: zAW))) (hd : y.cls ≠ "java/lang/invoke/MethodHandle" ∧ y.cls ≠ "java/lang/invoke/VarHandle" ∧ (parseMethodDescriptor y.desc).map (fun d => d.parameters.length) = some k9) (hdg : decode cc pc = .ok (.invokestatic index, 3)) (hR : fr + 1 ≤ R.frames ∧ 8 + (nl + 11) + lo ≤ R.locals) (is : List Nat) (hCw : is.map (fun i => ws[i]?) = W0.map some) (hnd : va_nd is = true) (hnA : As.length = k9) (hcat : (rest.map fun v => v.category).sum ≤ 8) (hf : cells + mc ≤ R.cells ∧ slots + ms ≤ R.slots) {ws2 : S → va_W} (js : List Nat) (hAw : ∀ u, is.map (fun i => (ws2 u)[i]?) = (W1 u).map some) (WR : va_W) (hBw : ∀ u, js.map (fun i => (ws2 u)[i]?) = WR.map some) (hBo : js.map (fun i => ws[i]?) = WR.map some) (hcv : ∀ u, (List.range (ws2 u).length).all (fun k => is.contains k || js.contains k) = true) (ads : List Nat) (hadr : ∀ u, (W1 u).map Prod.fst = ads) (hadr0 : W0.map Prod.fst = ads) (hn : pc + 3 = n) {st0 : List Value} (hst : As.reverse ++ rest = st0) (kk : ∀ (u : S), post u → ZZ p l e R s m args below meth c G A nL (cells + mc) (slots + ms) Q (ws2 u) lv n rest) : ZZ p l e R s m args below meth c G A nL cells slots Q ws lv pc st0 := by
  subst hn; subst hst
  intro H locs ls hP hD hS hl
  have hPc := wmap_P hP hCw
  have hDc := hD.sub is hnd hCw
  have hK := hC.2.2.2.2.2.1
  have hFc := va_free (wc := W0) hD hS hC.2.2.2.2.2.2.1 is hCw
  refine va_callv (va_runS (As := As) (rest := rest) (Ts := zAW) ⟨hC.1, hC.2.1, hC.2.2.1, hC.2.2.2.1, hC.2.2.2.2.1⟩ (hM H.size) (va_cwS k9 hC.2.2.2.2.1 hg rfl rfl rfl hd hR) ⟨fun a' U g mk q => ⟨q.1, cW_moved q.2⟩, fun U hU hW => ⟨rfl, by rw [hU], by rw [hU]; exact hPc, va_K.moved hW.alike hK, hDc.weaken (fun _ _ _ _ => trivial), zN_warm hW hC.2.2.2.2.2.2.2.1, zT_to hW hU hS hFc hC.2.2.2.2.2.2.2.2⟩⟩ rfl hnA hl.1 rfl (lv_room hcat) hdg hf) hS (fun q _ h => hFc q h) hFc (fun u t H1 locs1 ht hvm hw hB hz1 hk1 hS1 => by
    obtain ⟨hP2, hD2⟩ := wput_ok hP hD hCw ((hadr u).trans hadr0.symm) (wget_of (hAw u) ((hBw u).trans hBo.symm) (hcv u)) hk1 (ht ▸ hB.1)
    exact kk u hw H1 locs1 ls hP2 hD2 hS1 hl)
end
section
theorem zq_t {w : Cond} (h : w ∈ tables_1) (hg : goodWord w = true := by rfl) : w ∈ zAW := List.mem_filter.mpr ⟨List.mem_append_right _ h, hg⟩
theorem zq_s {w : Cond} (h : w ∈ k2_sels lw_privs) (hg : goodWord w = true := by rfl) : w ∈ zAW := List.mem_filter.mpr ⟨List.mem_append_left _ h, hg⟩
set_option maxRecDepth 20000 in
theorem q0 : Cond.laysFinal "ClayTraps$Squad" "ClayTraps$Squad" "swings" "[I" ∈ zAW := zq_t (List.mem_append_left _ (List.mem_of_getElem? (l := tables_1_1) (i := 59) rfl))
set_option maxRecDepth 20000 in
theorem q1 : Cond.laysFinal "ClayTraps$Squad" "ClayTraps$Squad" "steadinesses" "[I" ∈ zAW := zq_t (List.mem_append_left _ (List.mem_of_getElem? (l := tables_1_1) (i := 61) rfl))
set_option maxRecDepth 20000 in
theorem q2 : Cond.laysFinal "ClayTraps$Squad" "ClayTraps$Squad" "fatigues" "[I" ∈ zAW := zq_t (List.mem_append_left _ (List.mem_of_getElem? (l := tables_1_1) (i := 63) rfl))
set_option maxRecDepth 20000 in
theorem q3 : Cond.laysFinal "ClayTraps$Squad" "ClayTraps$Squad" "scores" "[I" ∈ zAW := zq_t (List.mem_append_left _ (List.mem_of_getElem? (l := tables_1_1) (i := 65) rfl))
set_option maxRecDepth 20000 in
theorem q4 : Cond.laysFinal "ClayTraps$Squad" "ClayTraps$Squad" "firsts" "[I" ∈ zAW := zq_t (List.mem_append_left _ (List.mem_of_getElem? (l := tables_1_1) (i := 67) rfl))
set_option maxRecDepth 20000 in
theorem q5 : Cond.laysFinal "ClayTraps$Squad" "ClayTraps$Squad" "misses" "[I" ∈ zAW := zq_t (List.mem_append_left _ (List.mem_of_getElem? (l := tables_1_1) (i := 69) rfl))
set_option maxRecDepth 20000 in
theorem q6 : Cond.laysFinal "ClayTraps$Squad" "ClayTraps$Squad" "left" "[Z" ∈ zAW := zq_t (List.mem_append_left _ (List.mem_of_getElem? (l := tables_1_1) (i := 71) rfl))
set_option maxRecDepth 20000 in
theorem q7 : Cond.laysFinal "ClayTraps$Squad" "ClayTraps$Squad" "hits" "[Z" ∈ zAW := zq_t (List.mem_append_left _ (List.mem_of_getElem? (l := tables_1_1) (i := 73) rfl))
set_option maxRecDepth 20000 in
theorem q8 : Cond.lays "ClayTraps$Squad" "ClayTraps$Squad" "size" "I" ∈ zAW := zq_t (List.mem_append_left _ (List.mem_of_getElem? (l := tables_1_1) (i := 75) rfl))
set_option maxRecDepth 20000 in
theorem q9 : Cond.laysFinal "ClayTraps$Traps" "ClayTraps$Traps" "bases" "[I" ∈ zAW := zq_t (List.mem_append_left _ (List.mem_of_getElem? (l := tables_1_1) (i := 32) rfl))
set_option maxRecDepth 20000 in
theorem q10 : Cond.laysFinal "ClayTraps$Traps" "ClayTraps$Traps" "spreads" "[I" ∈ zAW := zq_t (List.mem_append_left _ (List.mem_of_getElem? (l := tables_1_1) (i := 34) rfl))
set_option maxRecDepth 20000 in
theorem q11 : Cond.laysFinal "ClayTraps" "ClayTraps" "traps" "LClayTraps$Traps;" ∈ zAW := zq_t (List.mem_append_left _ (List.mem_of_getElem? (l := tables_1_1) (i := 83) rfl))
set_option maxRecDepth 20000 in
theorem q12 : Cond.laysFinal "ClayTraps" "ClayTraps" "squad" "LClayTraps$Squad;" ∈ zAW := zq_t (List.mem_append_left _ (List.mem_of_getElem? (l := tables_1_1) (i := 85) rfl))
set_option maxRecDepth 20000 in
theorem q13 : Cond.laysFinal "ClayTraps" "ClayTraps" "trial" "LClayTraps$Squad;" ∈ zAW := zq_t (List.mem_append_left _ (List.mem_of_getElem? (l := tables_1_1) (i := 87) rfl))
set_option maxRecDepth 20000 in
theorem q14 : Cond.lays "ClayTraps" "ClayTraps" "turn" "I" ∈ zAW := zq_t (List.mem_append_left _ (List.mem_of_getElem? (l := tables_1_1) (i := 89) rfl))
set_option maxRecDepth 20000 in
theorem q15 : Cond.lays "ClayTrapsModel" "ClayTrapsModel" "thrown" "I" ∈ zAW := zq_t (List.mem_append_right _ (List.mem_append_right _ (List.mem_append_left _ (List.mem_of_getElem? (l := tables_1_3) (i := 55) rfl))))
set_option maxRecDepth 20000 in
theorem q16 : Cond.lays "ClayTrapsModel" "ClayTrapsModel" "guns" "I" ∈ zAW := zq_t (List.mem_append_right _ (List.mem_append_right _ (List.mem_append_left _ (List.mem_of_getElem? (l := tables_1_3) (i := 57) rfl))))
set_option maxRecDepth 20000 in
theorem q17 : Cond.laysFinal "ClayTrapsModel" "ClayTrapsModel" "swing" "[I" ∈ zAW := zq_t (List.mem_append_right _ (List.mem_append_right _ (List.mem_append_left _ (List.mem_of_getElem? (l := tables_1_3) (i := 59) rfl))))
set_option maxRecDepth 20000 in
theorem q18 : Cond.laysFinal "ClayTrapsModel" "ClayTrapsModel" "steady" "[I" ∈ zAW := zq_t (List.mem_append_right _ (List.mem_append_right _ (List.mem_append_left _ (List.mem_of_getElem? (l := tables_1_3) (i := 61) rfl))))
set_option maxRecDepth 20000 in
theorem q19 : Cond.laysFinal "ClayTrapsModel" "ClayTrapsModel" "base" "[I" ∈ zAW := zq_t (List.mem_append_right _ (List.mem_append_right _ (List.mem_append_left _ (List.mem_of_getElem? (l := tables_1_3) (i := 63) rfl))))
set_option maxRecDepth 20000 in
theorem q20 : Cond.laysFinal "ClayTrapsModel" "ClayTrapsModel" "spread" "[I" ∈ zAW := zq_t (List.mem_append_right _ (List.mem_append_right _ (List.mem_append_left _ (List.mem_of_getElem? (l := tables_1_3) (i := 65) rfl))))
set_option maxRecDepth 20000 in
theorem q21 : Cond.laysFinal "ClayTrapsModel" "ClayTrapsModel" "now" "[I" ∈ zAW := zq_t (List.mem_append_right _ (List.mem_append_right _ (List.mem_append_left _ (List.mem_of_getElem? (l := tables_1_3) (i := 67) rfl))))
set_option maxRecDepth 20000 in
theorem q22 : Cond.laysFinal "ClayTrapsModel" "ClayTrapsModel" "kept" "[I" ∈ zAW := zq_t (List.mem_append_right _ (List.mem_append_right _ (List.mem_append_left _ (List.mem_of_getElem? (l := tables_1_3) (i := 69) rfl))))
set_option maxRecDepth 20000 in
theorem q23 : Cond.fieldLink "ClayTraps$Traps" 9 "ClayTraps$Traps" "bases" "[I" ∈ zAW := zq_t (List.mem_append_left _ (List.mem_of_getElem? (l := tables_1_1) (i := 28) rfl))
set_option maxRecDepth 20000 in
theorem q24 : Cond.fieldLink "ClayTraps" 56 "ClayTraps$Traps" "bases" "[I" ∈ zAW := zq_t (List.mem_append_left _ (List.mem_of_getElem? (l := tables_1_1) (i := 29) rfl))
set_option maxRecDepth 20000 in
theorem q25 : Cond.fieldLink "ClayTraps$Traps" 15 "ClayTraps$Traps" "spreads" "[I" ∈ zAW := zq_t (List.mem_append_left _ (List.mem_of_getElem? (l := tables_1_1) (i := 30) rfl))
set_option maxRecDepth 20000 in
theorem q26 : Cond.fieldLink "ClayTraps" 60 "ClayTraps$Traps" "spreads" "[I" ∈ zAW := zq_t (List.mem_append_left _ (List.mem_of_getElem? (l := tables_1_1) (i := 31) rfl))
set_option maxRecDepth 20000 in
theorem q27 : Cond.fieldLink "ClayTraps$Squad" 9 "ClayTraps$Squad" "swings" "[I" ∈ zAW := zq_t (List.mem_append_left _ (List.mem_of_getElem? (l := tables_1_1) (i := 44) rfl))
set_option maxRecDepth 20000 in
theorem q28 : Cond.fieldLink "ClayTraps" 135 "ClayTraps$Squad" "swings" "[I" ∈ zAW := zq_t (List.mem_append_left _ (List.mem_of_getElem? (l := tables_1_1) (i := 45) rfl))
set_option maxRecDepth 20000 in
theorem q29 : Cond.fieldLink "ClayTraps$Squad" 15 "ClayTraps$Squad" "steadinesses" "[I" ∈ zAW := zq_t (List.mem_append_left _ (List.mem_of_getElem? (l := tables_1_1) (i := 46) rfl))
set_option maxRecDepth 20000 in
theorem q30 : Cond.fieldLink "ClayTraps$Squad" 18 "ClayTraps$Squad" "fatigues" "[I" ∈ zAW := zq_t (List.mem_append_left _ (List.mem_of_getElem? (l := tables_1_1) (i := 47) rfl))
set_option maxRecDepth 20000 in
theorem q31 : Cond.fieldLink "ClayTraps" 66 "ClayTraps$Squad" "fatigues" "[I" ∈ zAW := zq_t (List.mem_append_left _ (List.mem_of_getElem? (l := tables_1_1) (i := 48) rfl))
set_option maxRecDepth 20000 in
theorem q32 : Cond.fieldLink "ClayTraps$Squad" 21 "ClayTraps$Squad" "scores" "[I" ∈ zAW := zq_t (List.mem_append_left _ (List.mem_of_getElem? (l := tables_1_1) (i := 49) rfl))
set_option maxRecDepth 20000 in
theorem q33 : Cond.fieldLink "ClayTraps" 103 "ClayTraps$Squad" "scores" "[I" ∈ zAW := zq_t (List.mem_append_left _ (List.mem_of_getElem? (l := tables_1_1) (i := 50) rfl))
set_option maxRecDepth 20000 in
theorem q34 : Cond.fieldLink "ClayTraps$Squad" 24 "ClayTraps$Squad" "firsts" "[I" ∈ zAW := zq_t (List.mem_append_left _ (List.mem_of_getElem? (l := tables_1_1) (i := 51) rfl))
set_option maxRecDepth 20000 in
theorem q35 : Cond.fieldLink "ClayTraps" 106 "ClayTraps$Squad" "firsts" "[I" ∈ zAW := zq_t (List.mem_append_left _ (List.mem_of_getElem? (l := tables_1_1) (i := 52) rfl))
set_option maxRecDepth 20000 in
theorem q36 : Cond.fieldLink "ClayTraps$Squad" 27 "ClayTraps$Squad" "misses" "[I" ∈ zAW := zq_t (List.mem_append_left _ (List.mem_of_getElem? (l := tables_1_1) (i := 53) rfl))
set_option maxRecDepth 20000 in
theorem q37 : Cond.fieldLink "ClayTraps" 109 "ClayTraps$Squad" "misses" "[I" ∈ zAW := zq_t (List.mem_append_left _ (List.mem_of_getElem? (l := tables_1_1) (i := 54) rfl))
set_option maxRecDepth 20000 in
theorem q38 : Cond.fieldLink "ClayTraps$Squad" 30 "ClayTraps$Squad" "left" "[Z" ∈ zAW := zq_t (List.mem_append_left _ (List.mem_of_getElem? (l := tables_1_1) (i := 55) rfl))
set_option maxRecDepth 20000 in
theorem q39 : Cond.fieldLink "ClayTraps$Squad" 34 "ClayTraps$Squad" "hits" "[Z" ∈ zAW := zq_t (List.mem_append_left _ (List.mem_of_getElem? (l := tables_1_1) (i := 56) rfl))
set_option maxRecDepth 20000 in
theorem q40 : Cond.fieldLink "ClayTraps$Squad" 37 "ClayTraps$Squad" "size" "I" ∈ zAW := zq_t (List.mem_append_left _ (List.mem_of_getElem? (l := tables_1_1) (i := 57) rfl))
set_option maxRecDepth 20000 in
theorem q41 : Cond.fieldLink "ClayTraps" 35 "ClayTraps$Squad" "size" "I" ∈ zAW := zq_t (List.mem_append_left _ (List.mem_of_getElem? (l := tables_1_1) (i := 58) rfl))
set_option maxRecDepth 20000 in
theorem q42 : Cond.fieldLink "ClayTraps" 10 "ClayTraps" "traps" "LClayTraps$Traps;" ∈ zAW := zq_t (List.mem_append_left _ (List.mem_of_getElem? (l := tables_1_1) (i := 79) rfl))
set_option maxRecDepth 20000 in
theorem q43 : Cond.fieldLink "ClayTraps" 19 "ClayTraps" "squad" "LClayTraps$Squad;" ∈ zAW := zq_t (List.mem_append_left _ (List.mem_of_getElem? (l := tables_1_1) (i := 80) rfl))
set_option maxRecDepth 20000 in
theorem q44 : Cond.fieldLink "ClayTraps" 23 "ClayTraps" "trial" "LClayTraps$Squad;" ∈ zAW := zq_t (List.mem_append_left _ (List.mem_of_getElem? (l := tables_1_1) (i := 81) rfl))
set_option maxRecDepth 20000 in
theorem q45 : Cond.fieldLink "ClayTraps" 72 "ClayTraps" "turn" "I" ∈ zAW := zq_t (List.mem_append_left _ (List.mem_of_getElem? (l := tables_1_1) (i := 82) rfl))
set_option maxRecDepth 20000 in
theorem q46 : Cond.fieldLink "ClayTrapsModel" 28 "ClayTrapsModel" "thrown" "I" ∈ zAW := zq_t (List.mem_append_right _ (List.mem_append_right _ (List.mem_append_left _ (List.mem_of_getElem? (l := tables_1_3) (i := 47) rfl))))
set_option maxRecDepth 20000 in
theorem q47 : Cond.fieldLink "ClayTrapsModel" 32 "ClayTrapsModel" "guns" "I" ∈ zAW := zq_t (List.mem_append_right _ (List.mem_append_right _ (List.mem_append_left _ (List.mem_of_getElem? (l := tables_1_3) (i := 48) rfl))))
set_option maxRecDepth 20000 in
theorem q48 : Cond.fieldLink "ClayTrapsModel" 9 "ClayTrapsModel" "swing" "[I" ∈ zAW := zq_t (List.mem_append_right _ (List.mem_append_right _ (List.mem_append_left _ (List.mem_of_getElem? (l := tables_1_3) (i := 49) rfl))))
set_option maxRecDepth 20000 in
theorem q49 : Cond.fieldLink "ClayTrapsModel" 13 "ClayTrapsModel" "steady" "[I" ∈ zAW := zq_t (List.mem_append_right _ (List.mem_append_right _ (List.mem_append_left _ (List.mem_of_getElem? (l := tables_1_3) (i := 50) rfl))))
set_option maxRecDepth 20000 in
theorem q50 : Cond.fieldLink "ClayTrapsModel" 16 "ClayTrapsModel" "base" "[I" ∈ zAW := zq_t (List.mem_append_right _ (List.mem_append_right _ (List.mem_append_left _ (List.mem_of_getElem? (l := tables_1_3) (i := 51) rfl))))
set_option maxRecDepth 20000 in
theorem q51 : Cond.fieldLink "ClayTrapsModel" 19 "ClayTrapsModel" "spread" "[I" ∈ zAW := zq_t (List.mem_append_right _ (List.mem_append_right _ (List.mem_append_left _ (List.mem_of_getElem? (l := tables_1_3) (i := 52) rfl))))
set_option maxRecDepth 20000 in
theorem q52 : Cond.fieldLink "ClayTrapsModel" 22 "ClayTrapsModel" "now" "[I" ∈ zAW := zq_t (List.mem_append_right _ (List.mem_append_right _ (List.mem_append_left _ (List.mem_of_getElem? (l := tables_1_3) (i := 53) rfl))))
set_option maxRecDepth 20000 in
theorem q53 : Cond.fieldLink "ClayTrapsModel" 25 "ClayTrapsModel" "kept" "[I" ∈ zAW := zq_t (List.mem_append_right _ (List.mem_append_right _ (List.mem_append_left _ (List.mem_of_getElem? (l := tables_1_3) (i := 54) rfl))))
set_option maxRecDepth 20000 in
theorem q54 : Cond.code yX2_init prog_1_method_1_code 1 none ∈ zAW := zq_t (List.mem_append_left _ (List.mem_of_getElem? (l := tables_1_1) (i := 18) rfl))
set_option maxRecDepth 20000 in
theorem q55 : Cond.methodLink "ClayTrapsLaw" 79 yX2_init ∈ zAW := zq_t (List.mem_append_left _ (List.mem_of_getElem? (l := tables_1_1) (i := 16) rfl))
set_option maxRecDepth 20000 in
theorem q56 : Cond.instanceMethod yX2_init ∈ zAW := zq_t (List.mem_append_left _ (List.mem_of_getElem? (l := tables_1_1) (i := 17) rfl))
set_option maxRecDepth 20000 in
theorem q57 : Cond.initialized "ClayTraps" ∈ zAW := zq_t (List.mem_append_left _ (List.mem_of_getElem? (l := tables_1_1) (i := 1) rfl))
set_option maxRecDepth 20000 in
theorem q58 : Cond.methodLink "ClayTraps" 1 (⟨"java/lang/Object", "<init>", "()V"⟩ : MethodName) ∈ zAW := zq_t (List.mem_append_left _ (List.mem_of_getElem? (l := tables_1_1) (i := 19) rfl))
set_option maxRecDepth 20000 in
theorem q59 : Cond.code yX1_init prog_3_method_1_code 2 none ∈ zAW := zq_t (List.mem_append_left _ (List.mem_of_getElem? (l := tables_1_1) (i := 26) rfl))
set_option maxRecDepth 20000 in
theorem q60 : Cond.methodLink "ClayTraps" 9 yX1_init ∈ zAW := zq_t (List.mem_append_left _ (List.mem_of_getElem? (l := tables_1_1) (i := 24) rfl))
set_option maxRecDepth 20000 in
theorem q61 : Cond.instanceMethod yX1_init ∈ zAW := zq_t (List.mem_append_left _ (List.mem_of_getElem? (l := tables_1_1) (i := 25) rfl))
set_option maxRecDepth 20000 in
theorem q62 : Cond.initialized "ClayTraps$Traps" ∈ zAW := zq_t (List.mem_append_left _ (List.mem_of_getElem? (l := tables_1_1) (i := 2) rfl))
set_option maxRecDepth 20000 in
theorem q63 : Cond.methodLink "ClayTraps$Traps" 3 (⟨"java/lang/Object", "<init>", "()V"⟩ : MethodName) ∈ zAW := zq_t (List.mem_append_left _ (List.mem_of_getElem? (l := tables_1_1) (i := 27) rfl))
set_option maxRecDepth 20000 in
theorem q64 : Cond.code yX0_init prog_2_method_1_code 1 none ∈ zAW := zq_t (List.mem_append_left _ (List.mem_of_getElem? (l := tables_1_1) (i := 42) rfl))
set_option maxRecDepth 20000 in
theorem q65 : Cond.methodLink "ClayTraps$Squad" 3 (⟨"java/lang/Object", "<init>", "()V"⟩ : MethodName) ∈ zAW := zq_t (List.mem_append_left _ (List.mem_of_getElem? (l := tables_1_1) (i := 43) rfl))
set_option maxRecDepth 20000 in
theorem q66 : Cond.code yX2_turn prog_1_method_7_code 1 (some .int) ∈ zAW := zq_t (List.mem_append_left _ (List.mem_of_getElem? (l := tables_1_1) (i := 95) rfl))
set_option maxRecDepth 20000 in
theorem q67 : Cond.methodLink "ClayTrapsLaw" 107 yX2_turn ∈ zAW := zq_t (List.mem_append_left _ (List.mem_of_getElem? (l := tables_1_1) (i := 92) rfl))
set_option maxRecDepth 20000 in
theorem q68 : Cond.instanceMethod yX2_turn ∈ zAW := zq_t (List.mem_append_left _ (List.mem_of_getElem? (l := tables_1_1) (i := 93) rfl))
set_option maxRecDepth 20000 in
theorem q69 : Cond.selects "ClayTraps" yX2_turn yX2_turn ∈ zAW := zq_t (List.mem_append_left _ (List.mem_of_getElem? (l := tables_1_1) (i := 94) rfl))
set_option maxRecDepth 20000 in
theorem q70 : Cond.code yX2_guns prog_1_method_12_code 1 (some .int) ∈ zAW := zq_t (List.mem_append_left _ (List.mem_of_getElem? (l := tables_1_1) (i := 99) rfl))
set_option maxRecDepth 20000 in
theorem q71 : Cond.methodLink "ClayTrapsLaw" 123 yX2_guns ∈ zAW := zq_t (List.mem_append_left _ (List.mem_of_getElem? (l := tables_1_1) (i := 96) rfl))
set_option maxRecDepth 20000 in
theorem q72 : Cond.instanceMethod yX2_guns ∈ zAW := zq_t (List.mem_append_left _ (List.mem_of_getElem? (l := tables_1_1) (i := 97) rfl))
set_option maxRecDepth 20000 in
theorem q73 : Cond.selects "ClayTraps" yX2_guns yX2_guns ∈ zAW := zq_t (List.mem_append_left _ (List.mem_of_getElem? (l := tables_1_1) (i := 98) rfl))
set_option maxRecDepth 20000 in
theorem q74 : Cond.code yX2_leader prog_1_method_18_code 1 (some .int) ∈ zAW := zq_t (List.mem_append_left _ (List.mem_of_getElem? (l := tables_1_1) (i := 103) rfl))
set_option maxRecDepth 20000 in
theorem q75 : Cond.methodLink "ClayTrapsLaw" 142 yX2_leader ∈ zAW := zq_t (List.mem_append_left _ (List.mem_of_getElem? (l := tables_1_1) (i := 100) rfl))
set_option maxRecDepth 20000 in
theorem q76 : Cond.instanceMethod yX2_leader ∈ zAW := zq_t (List.mem_append_left _ (List.mem_of_getElem? (l := tables_1_1) (i := 101) rfl))
set_option maxRecDepth 20000 in
theorem q77 : Cond.selects "ClayTraps" yX2_leader yX2_leader ∈ zAW := zq_t (List.mem_append_left _ (List.mem_of_getElem? (l := tables_1_1) (i := 102) rfl))
set_option maxRecDepth 20000 in
theorem q78 : Cond.code yX0_leading prog_2_method_9_code 3 (some .int) ∈ zAW := zq_t (List.mem_append_left _ (List.mem_of_getElem? (l := tables_1_1) (i := 107) rfl))
set_option maxRecDepth 20000 in
theorem q79 : Cond.methodLink "ClayTraps" 118 yX0_leading ∈ zAW := zq_t (List.mem_append_left _ (List.mem_of_getElem? (l := tables_1_1) (i := 104) rfl))
set_option maxRecDepth 20000 in
theorem q80 : Cond.instanceMethod yX0_leading ∈ zAW := zq_t (List.mem_append_left _ (List.mem_of_getElem? (l := tables_1_1) (i := 105) rfl))
set_option maxRecDepth 20000 in
theorem q81 : Cond.selects "ClayTraps$Squad" yX0_leading yX0_leading ∈ zAW := zq_t (List.mem_append_left _ (List.mem_of_getElem? (l := tables_1_1) (i := 106) rfl))
set_option maxRecDepth 20000 in
theorem q82 : Cond.initialized "ClayTraps$Squad" ∈ zAW := zq_t (List.mem_append_left _ (List.mem_of_getElem? (l := tables_1_1) (i := 3) rfl))
set_option maxRecDepth 20000 in
theorem q83 : Cond.code yX2_tied prog_1_method_19_code 1 (some .int) ∈ zAW := zq_t (List.mem_append_left _ (List.mem_of_getElem? (l := tables_1_1) (i := 111) rfl))
set_option maxRecDepth 20000 in
theorem q84 : Cond.methodLink "ClayTrapsLaw" 146 yX2_tied ∈ zAW := zq_t (List.mem_append_left _ (List.mem_of_getElem? (l := tables_1_1) (i := 108) rfl))
set_option maxRecDepth 20000 in
theorem q85 : Cond.instanceMethod yX2_tied ∈ zAW := zq_t (List.mem_append_left _ (List.mem_of_getElem? (l := tables_1_1) (i := 109) rfl))
set_option maxRecDepth 20000 in
theorem q86 : Cond.selects "ClayTraps" yX2_tied yX2_tied ∈ zAW := zq_t (List.mem_append_left _ (List.mem_of_getElem? (l := tables_1_1) (i := 110) rfl))
set_option maxRecDepth 20000 in
theorem q87 : Cond.code yX0_countTied prog_2_method_10_code 4 (some .int) ∈ zAW := zq_t (List.mem_append_left _ (List.mem_of_getElem? (l := tables_1_1) (i := 115) rfl))
set_option maxRecDepth 20000 in
theorem q88 : Cond.methodLink "ClayTraps" 121 yX0_countTied ∈ zAW := zq_t (List.mem_append_left _ (List.mem_of_getElem? (l := tables_1_1) (i := 112) rfl))
set_option maxRecDepth 20000 in
theorem q89 : Cond.instanceMethod yX0_countTied ∈ zAW := zq_t (List.mem_append_left _ (List.mem_of_getElem? (l := tables_1_1) (i := 113) rfl))
set_option maxRecDepth 20000 in
theorem q90 : Cond.selects "ClayTraps$Squad" yX0_countTied yX0_countTied ∈ zAW := zq_t (List.mem_append_left _ (List.mem_of_getElem? (l := tables_1_1) (i := 114) rfl))
set_option maxRecDepth 20000 in
theorem q91 : Cond.methodLink "ClayTraps$Squad" 70 yX0_leading ∈ zAW := zq_t (List.mem_append_left _ (List.mem_of_getElem? (l := tables_1_1) (i := 116) rfl))
set_option maxRecDepth 20000 in
theorem q92 : Cond.code yX2_wouldWin prog_1_method_24_code 1 (some .int) ∈ zAW := zq_t (List.mem_append_left _ (List.mem_of_getElem? (l := tables_1_1) (i := 120) rfl))
set_option maxRecDepth 20000 in
theorem q93 : Cond.methodLink "ClayTrapsLaw" 162 yX2_wouldWin ∈ zAW := zq_t (List.mem_append_left _ (List.mem_of_getElem? (l := tables_1_1) (i := 117) rfl))
set_option maxRecDepth 20000 in
theorem q94 : Cond.instanceMethod yX2_wouldWin ∈ zAW := zq_t (List.mem_append_left _ (List.mem_of_getElem? (l := tables_1_1) (i := 118) rfl))
set_option maxRecDepth 20000 in
theorem q95 : Cond.selects "ClayTraps" yX2_wouldWin yX2_wouldWin ∈ zAW := zq_t (List.mem_append_left _ (List.mem_of_getElem? (l := tables_1_1) (i := 119) rfl))
set_option maxRecDepth 20000 in
theorem q96 : Cond.code yX0_takeOver prog_2_method_3_code 3 none ∈ zAW := zq_t (List.mem_append_left _ (List.mem_of_getElem? (l := tables_1_1) (i := 124) rfl))
set_option maxRecDepth 20000 in
theorem q97 : Cond.methodLink "ClayTraps" 127 yX0_takeOver ∈ zAW := zq_t (List.mem_append_left _ (List.mem_of_getElem? (l := tables_1_1) (i := 121) rfl))
set_option maxRecDepth 20000 in
theorem q98 : Cond.instanceMethod yX0_takeOver ∈ zAW := zq_t (List.mem_append_left _ (List.mem_of_getElem? (l := tables_1_1) (i := 122) rfl))
set_option maxRecDepth 20000 in
theorem q99 : Cond.selects "ClayTraps$Squad" yX0_takeOver yX0_takeOver ∈ zAW := zq_t (List.mem_append_left _ (List.mem_of_getElem? (l := tables_1_1) (i := 123) rfl))
set_option maxRecDepth 20000 in
theorem q100 : Cond.code yX0_settleTie prog_2_method_13_code 3 (some .int) ∈ zAW := zq_t (List.mem_append_left _ (List.mem_of_getElem? (l := tables_1_1) (i := 128) rfl))
set_option maxRecDepth 20000 in
theorem q101 : Cond.methodLink "ClayTraps" 81 yX0_settleTie ∈ zAW := zq_t (List.mem_append_left _ (List.mem_of_getElem? (l := tables_1_1) (i := 125) rfl))
set_option maxRecDepth 20000 in
theorem q102 : Cond.instanceMethod yX0_settleTie ∈ zAW := zq_t (List.mem_append_left _ (List.mem_of_getElem? (l := tables_1_1) (i := 126) rfl))
set_option maxRecDepth 20000 in
theorem q103 : Cond.selects "ClayTraps$Squad" yX0_settleTie yX0_settleTie ∈ zAW := zq_t (List.mem_append_left _ (List.mem_of_getElem? (l := tables_1_1) (i := 127) rfl))
set_option maxRecDepth 20000 in
theorem q104 : Cond.code yX0_countLeft prog_2_method_16_code 3 (some .int) ∈ zAW := zq_t (List.mem_append_left _ (List.mem_of_getElem? (l := tables_1_1) (i := 132) rfl))
set_option maxRecDepth 20000 in
theorem q105 : Cond.methodLink "ClayTraps$Squad" 74 yX0_countLeft ∈ zAW := zq_t (List.mem_append_left _ (List.mem_of_getElem? (l := tables_1_1) (i := 129) rfl))
set_option maxRecDepth 20000 in
theorem q106 : Cond.instanceMethod yX0_countLeft ∈ zAW := zq_t (List.mem_append_left _ (List.mem_of_getElem? (l := tables_1_1) (i := 130) rfl))
set_option maxRecDepth 20000 in
theorem q107 : Cond.selects "ClayTraps$Squad" yX0_countLeft yX0_countLeft ∈ zAW := zq_t (List.mem_append_left _ (List.mem_of_getElem? (l := tables_1_1) (i := 131) rfl))
set_option maxRecDepth 20000 in
theorem q108 : Cond.code yX0_shootRound prog_2_method_14_code 4 none ∈ zAW := zq_t (List.mem_append_left _ (List.mem_of_getElem? (l := tables_1_1) (i := 136) rfl))
set_option maxRecDepth 20000 in
theorem q109 : Cond.methodLink "ClayTraps$Squad" 77 yX0_shootRound ∈ zAW := zq_t (List.mem_append_left _ (List.mem_of_getElem? (l := tables_1_1) (i := 133) rfl))
set_option maxRecDepth 20000 in
theorem q110 : Cond.instanceMethod yX0_shootRound ∈ zAW := zq_t (List.mem_append_left _ (List.mem_of_getElem? (l := tables_1_1) (i := 134) rfl))
set_option maxRecDepth 20000 in
theorem q111 : Cond.selects "ClayTraps$Squad" yX0_shootRound yX0_shootRound ∈ zAW := zq_t (List.mem_append_left _ (List.mem_of_getElem? (l := tables_1_1) (i := 135) rfl))
set_option maxRecDepth 20000 in
theorem q112 : Cond.code yX0_trouble prog_2_method_4_code 4 (some .int) ∈ zAW := zq_t (List.mem_append_left _ (List.mem_of_getElem? (l := tables_1_1) (i := 140) rfl))
set_option maxRecDepth 20000 in
theorem q113 : Cond.methodLink "ClayTraps$Squad" 41 yX0_trouble ∈ zAW := zq_t (List.mem_append_left _ (List.mem_of_getElem? (l := tables_1_1) (i := 137) rfl))
set_option maxRecDepth 20000 in
theorem q114 : Cond.instanceMethod yX0_trouble ∈ zAW := zq_t (List.mem_append_left _ (List.mem_of_getElem? (l := tables_1_1) (i := 138) rfl))
set_option maxRecDepth 20000 in
theorem q115 : Cond.selects "ClayTraps$Squad" yX0_trouble yX0_trouble ∈ zAW := zq_t (List.mem_append_left _ (List.mem_of_getElem? (l := tables_1_1) (i := 139) rfl))
set_option maxRecDepth 20000 in
theorem q116 : Cond.code yX0_keepThoseWhoHit prog_2_method_15_code 2 none ∈ zAW := zq_t (List.mem_append_left _ (List.mem_of_getElem? (l := tables_1_1) (i := 144) rfl))
set_option maxRecDepth 20000 in
theorem q117 : Cond.methodLink "ClayTraps$Squad" 84 yX0_keepThoseWhoHit ∈ zAW := zq_t (List.mem_append_left _ (List.mem_of_getElem? (l := tables_1_1) (i := 141) rfl))
set_option maxRecDepth 20000 in
theorem q118 : Cond.instanceMethod yX0_keepThoseWhoHit ∈ zAW := zq_t (List.mem_append_left _ (List.mem_of_getElem? (l := tables_1_1) (i := 142) rfl))
set_option maxRecDepth 20000 in
theorem q119 : Cond.selects "ClayTraps$Squad" yX0_keepThoseWhoHit yX0_keepThoseWhoHit ∈ zAW := zq_t (List.mem_append_left _ (List.mem_of_getElem? (l := tables_1_1) (i := 143) rfl))
set_option maxRecDepth 20000 in
theorem q120 : Cond.code yX0_firstLeft prog_2_method_17_code 2 (some .int) ∈ zAW := zq_t (List.mem_append_left _ (List.mem_of_getElem? (l := tables_1_1) (i := 148) rfl))
set_option maxRecDepth 20000 in
theorem q121 : Cond.methodLink "ClayTraps$Squad" 81 yX0_firstLeft ∈ zAW := zq_t (List.mem_append_left _ (List.mem_of_getElem? (l := tables_1_1) (i := 145) rfl))
set_option maxRecDepth 20000 in
theorem q122 : Cond.instanceMethod yX0_firstLeft ∈ zAW := zq_t (List.mem_append_left _ (List.mem_of_getElem? (l := tables_1_1) (i := 146) rfl))
set_option maxRecDepth 20000 in
theorem q123 : Cond.selects "ClayTraps$Squad" yX0_firstLeft yX0_firstLeft ∈ zAW := zq_t (List.mem_append_left _ (List.mem_of_getElem? (l := tables_1_1) (i := 147) rfl))
set_option maxRecDepth 20000 in
theorem q124 : Cond.code yX2_meanScore prog_1_method_27_code 1 (some .double) ∈ zAW := zq_t (List.mem_append_left _ (List.mem_of_getElem? (l := tables_1_1) (i := 152) rfl))
set_option maxRecDepth 20000 in
theorem q125 : Cond.methodLink "ClayTrapsLaw" 172 yX2_meanScore ∈ zAW := zq_t (List.mem_append_left _ (List.mem_of_getElem? (l := tables_1_1) (i := 149) rfl))
set_option maxRecDepth 20000 in
theorem q126 : Cond.instanceMethod yX2_meanScore ∈ zAW := zq_t (List.mem_append_left _ (List.mem_of_getElem? (l := tables_1_1) (i := 150) rfl))
set_option maxRecDepth 20000 in
theorem q127 : Cond.selects "ClayTraps" yX2_meanScore yX2_meanScore ∈ zAW := zq_t (List.mem_append_left _ (List.mem_of_getElem? (l := tables_1_1) (i := 151) rfl))
set_option maxRecDepth 20000 in
theorem q128 : Cond.code yX0_totalScore prog_2_method_12_code 3 (some .int) ∈ zAW := zq_t (List.mem_append_left _ (List.mem_of_getElem? (l := tables_1_1) (i := 156) rfl))
set_option maxRecDepth 20000 in
theorem q129 : Cond.methodLink "ClayTraps" 149 yX0_totalScore ∈ zAW := zq_t (List.mem_append_left _ (List.mem_of_getElem? (l := tables_1_1) (i := 153) rfl))
set_option maxRecDepth 20000 in
theorem q130 : Cond.instanceMethod yX0_totalScore ∈ zAW := zq_t (List.mem_append_left _ (List.mem_of_getElem? (l := tables_1_1) (i := 154) rfl))
set_option maxRecDepth 20000 in
theorem q131 : Cond.selects "ClayTraps$Squad" yX0_totalScore yX0_totalScore ∈ zAW := zq_t (List.mem_append_left _ (List.mem_of_getElem? (l := tables_1_1) (i := 155) rfl))
set_option maxRecDepth 20000 in
theorem q132 : Cond.code yX2_digest prog_1_method_28_code 5 (some .long) ∈ zAW := zq_t (List.mem_append_left _ (List.mem_of_getElem? (l := tables_1_1) (i := 160) rfl))
set_option maxRecDepth 20000 in
theorem q133 : Cond.methodLink "ClayTrapsLaw" 177 yX2_digest ∈ zAW := zq_t (List.mem_append_left _ (List.mem_of_getElem? (l := tables_1_1) (i := 157) rfl))
set_option maxRecDepth 20000 in
theorem q134 : Cond.instanceMethod yX2_digest ∈ zAW := zq_t (List.mem_append_left _ (List.mem_of_getElem? (l := tables_1_1) (i := 158) rfl))
set_option maxRecDepth 20000 in
theorem q135 : Cond.selects "ClayTraps" yX2_digest yX2_digest ∈ zAW := zq_t (List.mem_append_left _ (List.mem_of_getElem? (l := tables_1_1) (i := 159) rfl))
set_option maxRecDepth 20000 in
theorem q136 : Cond.methodLink "ClayTraps" 154 yX2_turn ∈ zAW := zq_t (List.mem_append_left _ (List.mem_of_getElem? (l := tables_1_1) (i := 162) rfl))
set_option maxRecDepth 20000 in
theorem q137 : Cond.code yX2_fold prog_1_method_35_code 4 (some .long) ∈ zAW := zq_t (List.mem_append_left _ (List.mem_of_getElem? (l := tables_1_1) (i := 165) rfl))
set_option maxRecDepth 20000 in
theorem q138 : Cond.methodLink "ClayTraps" 156 yX2_fold ∈ zAW := zq_t (List.mem_append_left _ (List.mem_of_getElem? (l := tables_1_1) (i := 163) rfl))
set_option maxRecDepth 20000 in
theorem q139 : Cond.static yX2_fold ∈ zAW := zq_t (List.mem_append_left _ (List.mem_of_getElem? (l := tables_1_1) (i := 164) rfl))
set_option maxRecDepth 20000 in
theorem q140 : Cond.methodLink "ClayTraps" 160 yX2_guns ∈ zAW := zq_t (List.mem_append_left _ (List.mem_of_getElem? (l := tables_1_1) (i := 167) rfl))
set_option maxRecDepth 20000 in
theorem q141 : Cond.methodLink "ClayTraps" 163 yX2_leader ∈ zAW := zq_t (List.mem_append_left _ (List.mem_of_getElem? (l := tables_1_1) (i := 168) rfl))
set_option maxRecDepth 20000 in
theorem q142 : Cond.methodLink "ClayTraps" 166 yX2_tied ∈ zAW := zq_t (List.mem_append_left _ (List.mem_of_getElem? (l := tables_1_1) (i := 169) rfl))
set_option maxRecDepth 20000 in
theorem q143 : Cond.methodLink "ClayTraps" 169 yX2_wouldWin ∈ zAW := zq_t (List.mem_append_left _ (List.mem_of_getElem? (l := tables_1_1) (i := 170) rfl))
set_option maxRecDepth 20000 in
theorem q144 : Cond.code yX2_leaderIn prog_1_method_23_code 2 (some .int) ∈ zAW := zq_t (List.mem_append_left _ (List.mem_of_getElem? (l := tables_1_1) (i := 174) rfl))
set_option maxRecDepth 20000 in
theorem q145 : Cond.methodLink "ClayTraps" 172 yX2_leaderIn ∈ zAW := zq_t (List.mem_append_left _ (List.mem_of_getElem? (l := tables_1_1) (i := 171) rfl))
set_option maxRecDepth 20000 in
theorem q146 : Cond.instanceMethod yX2_leaderIn ∈ zAW := zq_t (List.mem_append_left _ (List.mem_of_getElem? (l := tables_1_1) (i := 172) rfl))
set_option maxRecDepth 20000 in
theorem q147 : Cond.selects "ClayTraps" yX2_leaderIn yX2_leaderIn ∈ zAW := zq_t (List.mem_append_left _ (List.mem_of_getElem? (l := tables_1_1) (i := 173) rfl))
set_option maxRecDepth 20000 in
theorem q148 : Cond.code yX2_checkTurns prog_1_method_31_code 1 none ∈ zAW := zq_t (List.mem_append_left _ (List.mem_of_getElem? (l := tables_1_1) (i := 177) rfl))
set_option maxRecDepth 20000 in
theorem q149 : Cond.methodLink "ClayTraps" 69 yX2_checkTurns ∈ zAW := zq_t (List.mem_append_left _ (List.mem_of_getElem? (l := tables_1_1) (i := 175) rfl))
set_option maxRecDepth 20000 in
theorem q150 : Cond.static yX2_checkTurns ∈ zAW := zq_t (List.mem_append_left _ (List.mem_of_getElem? (l := tables_1_1) (i := 176) rfl))
set_option maxRecDepth 20000 in
theorem q151 : Cond.methodLink "ClayTraps" 30 (⟨"java/lang/IllegalArgumentException", "<init>", "(Ljava/lang/String;)V"⟩ : MethodName) ∈ zAW := zq_t (List.mem_append_left _ (List.mem_of_getElem? (l := tables_1_1) (i := 220) rfl))
set_option maxRecDepth 20000 in
theorem q152 : Cond.code yX0_play prog_2_method_8_code 7 (some .int) ∈ zAW := zq_t (List.mem_append_right _ (List.mem_append_left _ (List.mem_of_getElem? (l := tables_1_2) (i := 9) rfl)))
set_option maxRecDepth 20000 in
theorem q153 : Cond.methodLink "ClayTraps" 75 yX0_play ∈ zAW := zq_t (List.mem_append_right _ (List.mem_append_left _ (List.mem_of_getElem? (l := tables_1_2) (i := 6) rfl)))
set_option maxRecDepth 20000 in
theorem q154 : Cond.instanceMethod yX0_play ∈ zAW := zq_t (List.mem_append_right _ (List.mem_append_left _ (List.mem_of_getElem? (l := tables_1_2) (i := 7) rfl)))
set_option maxRecDepth 20000 in
theorem q155 : Cond.selects "ClayTraps$Squad" yX0_play yX0_play ∈ zAW := zq_t (List.mem_append_right _ (List.mem_append_left _ (List.mem_of_getElem? (l := tables_1_2) (i := 8) rfl)))
set_option maxRecDepth 20000 in
theorem q156 : Cond.code yX0_playAlone prog_2_method_7_code 7 none ∈ zAW := zq_t (List.mem_append_right _ (List.mem_append_left _ (List.mem_of_getElem? (l := tables_1_2) (i := 13) rfl)))
set_option maxRecDepth 20000 in
theorem q157 : Cond.methodLink "ClayTraps$Squad" 66 yX0_playAlone ∈ zAW := zq_t (List.mem_append_right _ (List.mem_append_left _ (List.mem_of_getElem? (l := tables_1_2) (i := 10) rfl)))
set_option maxRecDepth 20000 in
theorem q158 : Cond.instanceMethod yX0_playAlone ∈ zAW := zq_t (List.mem_append_right _ (List.mem_append_left _ (List.mem_of_getElem? (l := tables_1_2) (i := 11) rfl)))
set_option maxRecDepth 20000 in
theorem q159 : Cond.selects "ClayTraps$Squad" yX0_playAlone yX0_playAlone ∈ zAW := zq_t (List.mem_append_right _ (List.mem_append_left _ (List.mem_of_getElem? (l := tables_1_2) (i := 12) rfl)))
set_option maxRecDepth 20000 in
theorem q160 : Cond.code yX1_amountIn prog_3_method_5_code 3 (some .int) ∈ zAW := zq_t (List.mem_append_right _ (List.mem_append_left _ (List.mem_of_getElem? (l := tables_1_2) (i := 17) rfl)))
set_option maxRecDepth 20000 in
theorem q161 : Cond.methodLink "ClayTraps$Squad" 48 yX1_amountIn ∈ zAW := zq_t (List.mem_append_right _ (List.mem_append_left _ (List.mem_of_getElem? (l := tables_1_2) (i := 14) rfl)))
set_option maxRecDepth 20000 in
theorem q162 : Cond.instanceMethod yX1_amountIn ∈ zAW := zq_t (List.mem_append_right _ (List.mem_append_left _ (List.mem_of_getElem? (l := tables_1_2) (i := 15) rfl)))
set_option maxRecDepth 20000 in
theorem q163 : Cond.selects "ClayTraps$Traps" yX1_amountIn yX1_amountIn ∈ zAW := zq_t (List.mem_append_right _ (List.mem_append_left _ (List.mem_of_getElem? (l := tables_1_2) (i := 16) rfl)))
set_option maxRecDepth 20000 in
theorem q164 : Cond.code yX1_angleIn prog_3_method_3_code 3 (some .int) ∈ zAW := zq_t (List.mem_append_right _ (List.mem_append_left _ (List.mem_of_getElem? (l := tables_1_2) (i := 21) rfl)))
set_option maxRecDepth 20000 in
theorem q165 : Cond.methodLink "ClayTraps$Traps" 34 yX1_angleIn ∈ zAW := zq_t (List.mem_append_right _ (List.mem_append_left _ (List.mem_of_getElem? (l := tables_1_2) (i := 18) rfl)))
set_option maxRecDepth 20000 in
theorem q166 : Cond.instanceMethod yX1_angleIn ∈ zAW := zq_t (List.mem_append_right _ (List.mem_append_left _ (List.mem_of_getElem? (l := tables_1_2) (i := 19) rfl)))
set_option maxRecDepth 20000 in
theorem q167 : Cond.selects "ClayTraps$Traps" yX1_angleIn yX1_angleIn ∈ zAW := zq_t (List.mem_append_right _ (List.mem_append_left _ (List.mem_of_getElem? (l := tables_1_2) (i := 20) rfl)))
set_option maxRecDepth 20000 in
theorem q168 : Cond.code yX2_standIn prog_1_method_33_code 2 (some .int) ∈ zAW := zq_t (List.mem_append_right _ (List.mem_append_left _ (List.mem_of_getElem? (l := tables_1_2) (i := 24) rfl)))
set_option maxRecDepth 20000 in
theorem q169 : Cond.static yX2_standIn ∈ zAW := zq_t (List.mem_append_right _ (List.mem_append_left _ (List.mem_of_getElem? (l := tables_1_2) (i := 23) rfl)))
set_option maxRecDepth 20000 in
theorem q170 : Cond.code yJ9_floorMod_7cf53 prog_11_method_50_code 3 (some .int) ∈ zAW := zq_t (List.mem_append_right _ (List.mem_append_left _ (List.mem_of_getElem? (l := tables_1_2) (i := 27) rfl)))
set_option maxRecDepth 20000 in
theorem q171 : Cond.methodLink "ClayTraps" 217 yJ9_floorMod_7cf53 ∈ zAW := zq_t (List.mem_append_right _ (List.mem_append_left _ (List.mem_of_getElem? (l := tables_1_2) (i := 25) rfl)))
set_option maxRecDepth 20000 in
theorem q172 : Cond.static yJ9_floorMod_7cf53 ∈ zAW := zq_t (List.mem_append_right _ (List.mem_append_left _ (List.mem_of_getElem? (l := tables_1_2) (i := 26) rfl)))
set_option maxRecDepth 20000 in
theorem q173 : Cond.initialized "java/lang/Math" ∈ zAW := zq_t (List.mem_append_left _ (List.mem_of_getElem? (l := tables_1_1) (i := 11) rfl))
set_option maxRecDepth 20000 in
theorem q174 : Cond.code yX2_clayIn prog_1_method_32_code 1 (some .int) ∈ zAW := zq_t (List.mem_append_right _ (List.mem_append_left _ (List.mem_of_getElem? (l := tables_1_2) (i := 30) rfl)))
set_option maxRecDepth 20000 in
theorem q175 : Cond.static yX2_clayIn ∈ zAW := zq_t (List.mem_append_right _ (List.mem_append_left _ (List.mem_of_getElem? (l := tables_1_2) (i := 29) rfl)))
set_option maxRecDepth 20000 in
theorem q176 : Cond.code yX1_angleAt prog_3_method_2_code 3 (some .int) ∈ zAW := zq_t (List.mem_append_right _ (List.mem_append_left _ (List.mem_of_getElem? (l := tables_1_2) (i := 34) rfl)))
set_option maxRecDepth 20000 in
theorem q177 : Cond.methodLink "ClayTraps$Traps" 26 yX1_angleAt ∈ zAW := zq_t (List.mem_append_right _ (List.mem_append_left _ (List.mem_of_getElem? (l := tables_1_2) (i := 31) rfl)))
set_option maxRecDepth 20000 in
theorem q178 : Cond.instanceMethod yX1_angleAt ∈ zAW := zq_t (List.mem_append_right _ (List.mem_append_left _ (List.mem_of_getElem? (l := tables_1_2) (i := 32) rfl)))
set_option maxRecDepth 20000 in
theorem q179 : Cond.selects "ClayTraps$Traps" yX1_angleAt yX1_angleAt ∈ zAW := zq_t (List.mem_append_right _ (List.mem_append_left _ (List.mem_of_getElem? (l := tables_1_2) (i := 33) rfl)))
set_option maxRecDepth 20000 in
theorem q180 : Cond.methodLink "ClayTraps$Traps" 29 yJ9_abs_0f7a4 ∈ zAW := zq_t (List.mem_append_right _ (List.mem_append_left _ (List.mem_of_getElem? (l := tables_1_2) (i := 35) rfl)))
set_option maxRecDepth 20000 in
theorem q181 : Cond.code yX0_shoot prog_2_method_6_code 4 none ∈ zAW := zq_t (List.mem_append_right _ (List.mem_append_left _ (List.mem_of_getElem? (l := tables_1_2) (i := 41) rfl)))
set_option maxRecDepth 20000 in
theorem q182 : Cond.methodLink "ClayTraps$Squad" 53 yX0_shoot ∈ zAW := zq_t (List.mem_append_right _ (List.mem_append_left _ (List.mem_of_getElem? (l := tables_1_2) (i := 38) rfl)))
set_option maxRecDepth 20000 in
theorem q183 : Cond.instanceMethod yX0_shoot ∈ zAW := zq_t (List.mem_append_right _ (List.mem_append_left _ (List.mem_of_getElem? (l := tables_1_2) (i := 39) rfl)))
set_option maxRecDepth 20000 in
theorem q184 : Cond.selects "ClayTraps$Squad" yX0_shoot yX0_shoot ∈ zAW := zq_t (List.mem_append_right _ (List.mem_append_left _ (List.mem_of_getElem? (l := tables_1_2) (i := 40) rfl)))
set_option maxRecDepth 20000 in
theorem q185 : Cond.code yX0_outcome prog_2_method_5_code 3 (some .int) ∈ zAW := zq_t (List.mem_append_right _ (List.mem_append_left _ (List.mem_of_getElem? (l := tables_1_2) (i := 45) rfl)))
set_option maxRecDepth 20000 in
theorem q186 : Cond.methodLink "ClayTraps$Squad" 45 yX0_outcome ∈ zAW := zq_t (List.mem_append_right _ (List.mem_append_left _ (List.mem_of_getElem? (l := tables_1_2) (i := 42) rfl)))
set_option maxRecDepth 20000 in
theorem q187 : Cond.instanceMethod yX0_outcome ∈ zAW := zq_t (List.mem_append_right _ (List.mem_append_left _ (List.mem_of_getElem? (l := tables_1_2) (i := 43) rfl)))
set_option maxRecDepth 20000 in
theorem q188 : Cond.selects "ClayTraps$Squad" yX0_outcome yX0_outcome ∈ zAW := zq_t (List.mem_append_right _ (List.mem_append_left _ (List.mem_of_getElem? (l := tables_1_2) (i := 44) rfl)))
set_option maxRecDepth 20000 in
theorem q189 : Cond.methodLink "ClayTraps$Squad" 61 yJ9_max_7cf53 ∈ zAW := zq_t (List.mem_append_right _ (List.mem_append_left _ (List.mem_of_getElem? (l := tables_1_2) (i := 47) rfl)))
set_option maxRecDepth 20000 in
theorem q190 : Cond.code yX2_angle prog_1_method_8_code 3 (some .int) ∈ zAW := zq_t (List.mem_append_right _ (List.mem_append_left _ (List.mem_of_getElem? (l := tables_1_2) (i := 53) rfl)))
set_option maxRecDepth 20000 in
theorem q191 : Cond.methodLink "ClayTraps" 175 yX2_angle ∈ zAW := zq_t (List.mem_append_right _ (List.mem_append_left _ (List.mem_of_getElem? (l := tables_1_2) (i := 50) rfl)))
set_option maxRecDepth 20000 in
theorem q192 : Cond.instanceMethod yX2_angle ∈ zAW := zq_t (List.mem_append_right _ (List.mem_append_left _ (List.mem_of_getElem? (l := tables_1_2) (i := 51) rfl)))
set_option maxRecDepth 20000 in
theorem q193 : Cond.selects "ClayTraps" yX2_angle yX2_angle ∈ zAW := zq_t (List.mem_append_right _ (List.mem_append_left _ (List.mem_of_getElem? (l := tables_1_2) (i := 52) rfl)))
set_option maxRecDepth 20000 in
theorem q194 : Cond.code yX2_checkStand prog_1_method_29_code 1 none ∈ zAW := zq_t (List.mem_append_right _ (List.mem_append_left _ (List.mem_of_getElem? (l := tables_1_2) (i := 56) rfl)))
set_option maxRecDepth 20000 in
theorem q195 : Cond.methodLink "ClayTraps" 48 yX2_checkStand ∈ zAW := zq_t (List.mem_append_right _ (List.mem_append_left _ (List.mem_of_getElem? (l := tables_1_2) (i := 54) rfl)))
set_option maxRecDepth 20000 in
theorem q196 : Cond.static yX2_checkStand ∈ zAW := zq_t (List.mem_append_right _ (List.mem_append_left _ (List.mem_of_getElem? (l := tables_1_2) (i := 55) rfl)))
set_option maxRecDepth 20000 in
theorem q197 : Cond.methodLink "ClayTraps" 89 (⟨"java/lang/IndexOutOfBoundsException", "<init>", "(Ljava/lang/String;)V"⟩ : MethodName) ∈ zAW := zq_t (List.mem_append_right _ (List.mem_append_left _ (List.mem_of_getElem? (l := tables_1_2) (i := 67) rfl)))
set_option maxRecDepth 20000 in
theorem q198 : Cond.methodLink "ClayTraps" 90 yX1_angleAt ∈ zAW := zq_t (List.mem_append_right _ (List.mem_append_left _ (List.mem_of_getElem? (l := tables_1_2) (i := 74) rfl)))
set_option maxRecDepth 20000 in
theorem q199 : Cond.code yX2_hardestClay prog_1_method_9_code 2 (some .int) ∈ zAW := zq_t (List.mem_append_right _ (List.mem_append_left _ (List.mem_of_getElem? (l := tables_1_2) (i := 78) rfl)))
set_option maxRecDepth 20000 in
theorem q200 : Cond.methodLink "ClayTraps" 178 yX2_hardestClay ∈ zAW := zq_t (List.mem_append_right _ (List.mem_append_left _ (List.mem_of_getElem? (l := tables_1_2) (i := 75) rfl)))
set_option maxRecDepth 20000 in
theorem q201 : Cond.instanceMethod yX2_hardestClay ∈ zAW := zq_t (List.mem_append_right _ (List.mem_append_left _ (List.mem_of_getElem? (l := tables_1_2) (i := 76) rfl)))
set_option maxRecDepth 20000 in
theorem q202 : Cond.selects "ClayTraps" yX2_hardestClay yX2_hardestClay ∈ zAW := zq_t (List.mem_append_right _ (List.mem_append_left _ (List.mem_of_getElem? (l := tables_1_2) (i := 77) rfl)))
set_option maxRecDepth 20000 in
theorem q203 : Cond.code yX1_hardestAt prog_3_method_6_code 4 (some .int) ∈ zAW := zq_t (List.mem_append_right _ (List.mem_append_left _ (List.mem_of_getElem? (l := tables_1_2) (i := 82) rfl)))
set_option maxRecDepth 20000 in
theorem q204 : Cond.methodLink "ClayTraps" 93 yX1_hardestAt ∈ zAW := zq_t (List.mem_append_right _ (List.mem_append_left _ (List.mem_of_getElem? (l := tables_1_2) (i := 79) rfl)))
set_option maxRecDepth 20000 in
theorem q205 : Cond.instanceMethod yX1_hardestAt ∈ zAW := zq_t (List.mem_append_right _ (List.mem_append_left _ (List.mem_of_getElem? (l := tables_1_2) (i := 80) rfl)))
set_option maxRecDepth 20000 in
theorem q206 : Cond.selects "ClayTraps$Traps" yX1_hardestAt yX1_hardestAt ∈ zAW := zq_t (List.mem_append_right _ (List.mem_append_left _ (List.mem_of_getElem? (l := tables_1_2) (i := 81) rfl)))
set_option maxRecDepth 20000 in
theorem q207 : Cond.code yX1_amountAt prog_3_method_4_code 3 (some .int) ∈ zAW := zq_t (List.mem_append_right _ (List.mem_append_left _ (List.mem_of_getElem? (l := tables_1_2) (i := 86) rfl)))
set_option maxRecDepth 20000 in
theorem q208 : Cond.methodLink "ClayTraps$Traps" 37 yX1_amountAt ∈ zAW := zq_t (List.mem_append_right _ (List.mem_append_left _ (List.mem_of_getElem? (l := tables_1_2) (i := 83) rfl)))
set_option maxRecDepth 20000 in
theorem q209 : Cond.instanceMethod yX1_amountAt ∈ zAW := zq_t (List.mem_append_right _ (List.mem_append_left _ (List.mem_of_getElem? (l := tables_1_2) (i := 84) rfl)))
set_option maxRecDepth 20000 in
theorem q210 : Cond.selects "ClayTraps$Traps" yX1_amountAt yX1_amountAt ∈ zAW := zq_t (List.mem_append_right _ (List.mem_append_left _ (List.mem_of_getElem? (l := tables_1_2) (i := 85) rfl)))
set_option maxRecDepth 20000 in
theorem q211 : Cond.code yX2_standOf prog_1_method_10_code 2 (some .int) ∈ zAW := zq_t (List.mem_append_right _ (List.mem_append_left _ (List.mem_of_getElem? (l := tables_1_2) (i := 90) rfl)))
set_option maxRecDepth 20000 in
theorem q212 : Cond.methodLink "ClayTraps" 181 yX2_standOf ∈ zAW := zq_t (List.mem_append_right _ (List.mem_append_left _ (List.mem_of_getElem? (l := tables_1_2) (i := 87) rfl)))
set_option maxRecDepth 20000 in
theorem q213 : Cond.instanceMethod yX2_standOf ∈ zAW := zq_t (List.mem_append_right _ (List.mem_append_left _ (List.mem_of_getElem? (l := tables_1_2) (i := 88) rfl)))
set_option maxRecDepth 20000 in
theorem q214 : Cond.selects "ClayTraps" yX2_standOf yX2_standOf ∈ zAW := zq_t (List.mem_append_right _ (List.mem_append_left _ (List.mem_of_getElem? (l := tables_1_2) (i := 89) rfl)))
set_option maxRecDepth 20000 in
theorem q215 : Cond.code yX2_checkGun prog_1_method_30_code 2 none ∈ zAW := zq_t (List.mem_append_right _ (List.mem_append_left _ (List.mem_of_getElem? (l := tables_1_2) (i := 94) rfl)))
set_option maxRecDepth 20000 in
theorem q216 : Cond.methodLink "ClayTraps" 63 yX2_checkGun ∈ zAW := zq_t (List.mem_append_right _ (List.mem_append_left _ (List.mem_of_getElem? (l := tables_1_2) (i := 91) rfl)))
set_option maxRecDepth 20000 in
theorem q217 : Cond.instanceMethod yX2_checkGun ∈ zAW := zq_t (List.mem_append_right _ (List.mem_append_left _ (List.mem_of_getElem? (l := tables_1_2) (i := 93) rfl)))
set_option maxRecDepth 20000 in
theorem q218 : Cond.selects "ClayTraps" yX2_checkGun yX2_checkGun ∈ zAW := zq_s (List.mem_of_getElem? (l := k2_sels lw_privs) (i := 1) rfl)
set_option maxRecDepth 20000 in
theorem q219 : Cond.methodLink "ClayTraps" 97 yX2_standIn ∈ zAW := zq_t (List.mem_append_right _ (List.mem_append_left _ (List.mem_of_getElem? (l := tables_1_2) (i := 96) rfl)))
set_option maxRecDepth 20000 in
theorem q220 : Cond.code yX2_angleFor prog_1_method_11_code 2 (some .int) ∈ zAW := zq_t (List.mem_append_right _ (List.mem_append_left _ (List.mem_of_getElem? (l := tables_1_2) (i := 100) rfl)))
set_option maxRecDepth 20000 in
theorem q221 : Cond.methodLink "ClayTraps" 184 yX2_angleFor ∈ zAW := zq_t (List.mem_append_right _ (List.mem_append_left _ (List.mem_of_getElem? (l := tables_1_2) (i := 97) rfl)))
set_option maxRecDepth 20000 in
theorem q222 : Cond.instanceMethod yX2_angleFor ∈ zAW := zq_t (List.mem_append_right _ (List.mem_append_left _ (List.mem_of_getElem? (l := tables_1_2) (i := 98) rfl)))
set_option maxRecDepth 20000 in
theorem q223 : Cond.selects "ClayTraps" yX2_angleFor yX2_angleFor ∈ zAW := zq_t (List.mem_append_right _ (List.mem_append_left _ (List.mem_of_getElem? (l := tables_1_2) (i := 99) rfl)))
set_option maxRecDepth 20000 in
theorem q224 : Cond.methodLink "ClayTraps" 100 yX1_angleIn ∈ zAW := zq_t (List.mem_append_right _ (List.mem_append_left _ (List.mem_of_getElem? (l := tables_1_2) (i := 101) rfl)))
set_option maxRecDepth 20000 in
theorem q225 : Cond.code yX2_scoreOf prog_1_method_13_code 2 (some .int) ∈ zAW := zq_t (List.mem_append_right _ (List.mem_append_left _ (List.mem_of_getElem? (l := tables_1_2) (i := 105) rfl)))
set_option maxRecDepth 20000 in
theorem q226 : Cond.methodLink "ClayTraps" 187 yX2_scoreOf ∈ zAW := zq_t (List.mem_append_right _ (List.mem_append_left _ (List.mem_of_getElem? (l := tables_1_2) (i := 102) rfl)))
set_option maxRecDepth 20000 in
theorem q227 : Cond.instanceMethod yX2_scoreOf ∈ zAW := zq_t (List.mem_append_right _ (List.mem_append_left _ (List.mem_of_getElem? (l := tables_1_2) (i := 103) rfl)))
set_option maxRecDepth 20000 in
theorem q228 : Cond.selects "ClayTraps" yX2_scoreOf yX2_scoreOf ∈ zAW := zq_t (List.mem_append_right _ (List.mem_append_left _ (List.mem_of_getElem? (l := tables_1_2) (i := 104) rfl)))
set_option maxRecDepth 20000 in
theorem q229 : Cond.code yX2_firstsOf prog_1_method_14_code 2 (some .int) ∈ zAW := zq_t (List.mem_append_right _ (List.mem_append_left _ (List.mem_of_getElem? (l := tables_1_2) (i := 109) rfl)))
set_option maxRecDepth 20000 in
theorem q230 : Cond.methodLink "ClayTraps" 190 yX2_firstsOf ∈ zAW := zq_t (List.mem_append_right _ (List.mem_append_left _ (List.mem_of_getElem? (l := tables_1_2) (i := 106) rfl)))
set_option maxRecDepth 20000 in
theorem q231 : Cond.instanceMethod yX2_firstsOf ∈ zAW := zq_t (List.mem_append_right _ (List.mem_append_left _ (List.mem_of_getElem? (l := tables_1_2) (i := 107) rfl)))
set_option maxRecDepth 20000 in
theorem q232 : Cond.selects "ClayTraps" yX2_firstsOf yX2_firstsOf ∈ zAW := zq_t (List.mem_append_right _ (List.mem_append_left _ (List.mem_of_getElem? (l := tables_1_2) (i := 108) rfl)))
set_option maxRecDepth 20000 in
theorem q233 : Cond.code yX2_missesOf prog_1_method_15_code 2 (some .int) ∈ zAW := zq_t (List.mem_append_right _ (List.mem_append_left _ (List.mem_of_getElem? (l := tables_1_2) (i := 113) rfl)))
set_option maxRecDepth 20000 in
theorem q234 : Cond.methodLink "ClayTraps" 193 yX2_missesOf ∈ zAW := zq_t (List.mem_append_right _ (List.mem_append_left _ (List.mem_of_getElem? (l := tables_1_2) (i := 110) rfl)))
set_option maxRecDepth 20000 in
theorem q235 : Cond.instanceMethod yX2_missesOf ∈ zAW := zq_t (List.mem_append_right _ (List.mem_append_left _ (List.mem_of_getElem? (l := tables_1_2) (i := 111) rfl)))
set_option maxRecDepth 20000 in
theorem q236 : Cond.selects "ClayTraps" yX2_missesOf yX2_missesOf ∈ zAW := zq_t (List.mem_append_right _ (List.mem_append_left _ (List.mem_of_getElem? (l := tables_1_2) (i := 112) rfl)))
set_option maxRecDepth 20000 in
theorem q237 : Cond.code yX2_fatigueOf prog_1_method_16_code 2 (some .int) ∈ zAW := zq_t (List.mem_append_right _ (List.mem_append_left _ (List.mem_of_getElem? (l := tables_1_2) (i := 117) rfl)))
set_option maxRecDepth 20000 in
theorem q238 : Cond.methodLink "ClayTraps" 196 yX2_fatigueOf ∈ zAW := zq_t (List.mem_append_right _ (List.mem_append_left _ (List.mem_of_getElem? (l := tables_1_2) (i := 114) rfl)))
set_option maxRecDepth 20000 in
theorem q239 : Cond.instanceMethod yX2_fatigueOf ∈ zAW := zq_t (List.mem_append_right _ (List.mem_append_left _ (List.mem_of_getElem? (l := tables_1_2) (i := 115) rfl)))
set_option maxRecDepth 20000 in
theorem q240 : Cond.selects "ClayTraps" yX2_fatigueOf yX2_fatigueOf ∈ zAW := zq_t (List.mem_append_right _ (List.mem_append_left _ (List.mem_of_getElem? (l := tables_1_2) (i := 116) rfl)))
set_option maxRecDepth 20000 in
theorem q241 : Cond.code yX2_wouldHit prog_1_method_17_code 2 (some .int) ∈ zAW := zq_t (List.mem_append_right _ (List.mem_append_left _ (List.mem_of_getElem? (l := tables_1_2) (i := 121) rfl)))
set_option maxRecDepth 20000 in
theorem q242 : Cond.methodLink "ClayTraps" 199 yX2_wouldHit ∈ zAW := zq_t (List.mem_append_right _ (List.mem_append_left _ (List.mem_of_getElem? (l := tables_1_2) (i := 118) rfl)))
set_option maxRecDepth 20000 in
theorem q243 : Cond.instanceMethod yX2_wouldHit ∈ zAW := zq_t (List.mem_append_right _ (List.mem_append_left _ (List.mem_of_getElem? (l := tables_1_2) (i := 119) rfl)))
set_option maxRecDepth 20000 in
theorem q244 : Cond.selects "ClayTraps" yX2_wouldHit yX2_wouldHit ∈ zAW := zq_t (List.mem_append_right _ (List.mem_append_left _ (List.mem_of_getElem? (l := tables_1_2) (i := 120) rfl)))
set_option maxRecDepth 20000 in
theorem q245 : Cond.methodLink "ClayTraps" 112 yX1_amountIn ∈ zAW := zq_t (List.mem_append_right _ (List.mem_append_left _ (List.mem_of_getElem? (l := tables_1_2) (i := 122) rfl)))
set_option maxRecDepth 20000 in
theorem q246 : Cond.methodLink "ClayTraps" 115 yX0_outcome ∈ zAW := zq_t (List.mem_append_right _ (List.mem_append_left _ (List.mem_of_getElem? (l := tables_1_2) (i := 123) rfl)))
set_option maxRecDepth 20000 in
theorem q247 : Cond.code yX2_rankOf prog_1_method_20_code 2 (some .int) ∈ zAW := zq_t (List.mem_append_right _ (List.mem_append_left _ (List.mem_of_getElem? (l := tables_1_2) (i := 127) rfl)))
set_option maxRecDepth 20000 in
theorem q248 : Cond.methodLink "ClayTraps" 202 yX2_rankOf ∈ zAW := zq_t (List.mem_append_right _ (List.mem_append_left _ (List.mem_of_getElem? (l := tables_1_2) (i := 124) rfl)))
set_option maxRecDepth 20000 in
theorem q249 : Cond.instanceMethod yX2_rankOf ∈ zAW := zq_t (List.mem_append_right _ (List.mem_append_left _ (List.mem_of_getElem? (l := tables_1_2) (i := 125) rfl)))
set_option maxRecDepth 20000 in
theorem q250 : Cond.selects "ClayTraps" yX2_rankOf yX2_rankOf ∈ zAW := zq_t (List.mem_append_right _ (List.mem_append_left _ (List.mem_of_getElem? (l := tables_1_2) (i := 126) rfl)))
set_option maxRecDepth 20000 in
theorem q251 : Cond.code yX0_countAbove prog_2_method_11_code 4 (some .int) ∈ zAW := zq_t (List.mem_append_right _ (List.mem_append_left _ (List.mem_of_getElem? (l := tables_1_2) (i := 131) rfl)))
set_option maxRecDepth 20000 in
theorem q252 : Cond.methodLink "ClayTraps" 124 yX0_countAbove ∈ zAW := zq_t (List.mem_append_right _ (List.mem_append_left _ (List.mem_of_getElem? (l := tables_1_2) (i := 128) rfl)))
set_option maxRecDepth 20000 in
theorem q253 : Cond.instanceMethod yX0_countAbove ∈ zAW := zq_t (List.mem_append_right _ (List.mem_append_left _ (List.mem_of_getElem? (l := tables_1_2) (i := 129) rfl)))
set_option maxRecDepth 20000 in
theorem q254 : Cond.selects "ClayTraps$Squad" yX0_countAbove yX0_countAbove ∈ zAW := zq_t (List.mem_append_right _ (List.mem_append_left _ (List.mem_of_getElem? (l := tables_1_2) (i := 130) rfl)))
set_option maxRecDepth 20000 in
theorem q255 : Cond.code yX2_turnsUntilMiss prog_1_method_22_code 3 (some .int) ∈ zAW := zq_t (List.mem_append_right _ (List.mem_append_left _ (List.mem_of_getElem? (l := tables_1_2) (i := 135) rfl)))
set_option maxRecDepth 20000 in
theorem q256 : Cond.methodLink "ClayTraps" 205 yX2_turnsUntilMiss ∈ zAW := zq_t (List.mem_append_right _ (List.mem_append_left _ (List.mem_of_getElem? (l := tables_1_2) (i := 132) rfl)))
set_option maxRecDepth 20000 in
theorem q257 : Cond.instanceMethod yX2_turnsUntilMiss ∈ zAW := zq_t (List.mem_append_right _ (List.mem_append_left _ (List.mem_of_getElem? (l := tables_1_2) (i := 133) rfl)))
set_option maxRecDepth 20000 in
theorem q258 : Cond.selects "ClayTraps" yX2_turnsUntilMiss yX2_turnsUntilMiss ∈ zAW := zq_t (List.mem_append_right _ (List.mem_append_left _ (List.mem_of_getElem? (l := tables_1_2) (i := 134) rfl)))
set_option maxRecDepth 20000 in
theorem q259 : Cond.code yX2_bestRest prog_1_method_25_code 6 (some .int) ∈ zAW := zq_t (List.mem_append_right _ (List.mem_append_left _ (List.mem_of_getElem? (l := tables_1_2) (i := 139) rfl)))
set_option maxRecDepth 20000 in
theorem q260 : Cond.methodLink "ClayTraps" 208 yX2_bestRest ∈ zAW := zq_t (List.mem_append_right _ (List.mem_append_left _ (List.mem_of_getElem? (l := tables_1_2) (i := 136) rfl)))
set_option maxRecDepth 20000 in
theorem q261 : Cond.instanceMethod yX2_bestRest ∈ zAW := zq_t (List.mem_append_right _ (List.mem_append_left _ (List.mem_of_getElem? (l := tables_1_2) (i := 137) rfl)))
set_option maxRecDepth 20000 in
theorem q262 : Cond.selects "ClayTraps" yX2_bestRest yX2_bestRest ∈ zAW := zq_t (List.mem_append_right _ (List.mem_append_left _ (List.mem_of_getElem? (l := tables_1_2) (i := 138) rfl)))
set_option maxRecDepth 20000 in
theorem q263 : Cond.code yX2_scoreWithRest prog_1_method_34_code 3 (some .int) ∈ zAW := zq_t (List.mem_append_right _ (List.mem_append_left _ (List.mem_of_getElem? (l := tables_1_2) (i := 143) rfl)))
set_option maxRecDepth 20000 in
theorem q264 : Cond.methodLink "ClayTraps" 138 yX2_scoreWithRest ∈ zAW := zq_t (List.mem_append_right _ (List.mem_append_left _ (List.mem_of_getElem? (l := tables_1_2) (i := 140) rfl)))
set_option maxRecDepth 20000 in
theorem q265 : Cond.instanceMethod yX2_scoreWithRest ∈ zAW := zq_t (List.mem_append_right _ (List.mem_append_left _ (List.mem_of_getElem? (l := tables_1_2) (i := 142) rfl)))
set_option maxRecDepth 20000 in
theorem q266 : Cond.selects "ClayTraps" yX2_scoreWithRest yX2_scoreWithRest ∈ zAW := zq_s (List.mem_of_getElem? (l := k2_sels lw_privs) (i := 2) rfl)
set_option maxRecDepth 20000 in
theorem q267 : Cond.methodLink "ClayTraps" 131 yX0_playAlone ∈ zAW := zq_t (List.mem_append_right _ (List.mem_append_left _ (List.mem_of_getElem? (l := tables_1_2) (i := 144) rfl)))
set_option maxRecDepth 20000 in
theorem q268 : Cond.codeWith yL_addGun method_3_code 5 (some .int) [(0, 10, 13, 13), (0, 10, 17, 15)] ∈ zAW := zq_t (List.mem_append_right _ (List.mem_append_left _ (List.mem_of_getElem? (l := tables_1_2) (i := 147) rfl)))
set_option maxRecDepth 20000 in
theorem q269 : Cond.methodLink "ClayTrapsLaw" 83 yL_addGun ∈ zAW := zq_t (List.mem_append_right _ (List.mem_append_left _ (List.mem_of_getElem? (l := tables_1_2) (i := 145) rfl)))
set_option maxRecDepth 20000 in
theorem q270 : Cond.static yL_addGun ∈ zAW := zq_t (List.mem_append_right _ (List.mem_append_left _ (List.mem_of_getElem? (l := tables_1_2) (i := 146) rfl)))
set_option maxRecDepth 20000 in
theorem q271 : Cond.initialized "ClayTrapsLaw" ∈ zAW := zq_t (List.mem_append_left _ (List.mem_of_getElem? (l := tables_1_1) (i := 0) rfl))
set_option maxRecDepth 20000 in
theorem q272 : Cond.code yX2_addGun prog_1_method_2_code 3 (some .int) ∈ zAW := zq_t (List.mem_append_right _ (List.mem_append_left _ (List.mem_of_getElem? (l := tables_1_2) (i := 153) rfl)))
set_option maxRecDepth 20000 in
theorem q273 : Cond.methodLink "ClayTrapsLaw" 7 yX2_addGun ∈ zAW := zq_t (List.mem_append_right _ (List.mem_append_left _ (List.mem_of_getElem? (l := tables_1_2) (i := 150) rfl)))
set_option maxRecDepth 20000 in
theorem q274 : Cond.instanceMethod yX2_addGun ∈ zAW := zq_t (List.mem_append_right _ (List.mem_append_left _ (List.mem_of_getElem? (l := tables_1_2) (i := 151) rfl)))
set_option maxRecDepth 20000 in
theorem q275 : Cond.selects "ClayTraps" yX2_addGun yX2_addGun ∈ zAW := zq_t (List.mem_append_right _ (List.mem_append_left _ (List.mem_of_getElem? (l := tables_1_2) (i := 152) rfl)))
set_option maxRecDepth 20000 in
theorem q276 : Cond.methodLink "ClayTraps" 43 (⟨"java/lang/IllegalStateException", "<init>", "(Ljava/lang/String;)V"⟩ : MethodName) ∈ zAW := zq_t (List.mem_append_right _ (List.mem_append_left _ (List.mem_of_getElem? (l := tables_1_2) (i := 166) rfl)))
set_option maxRecDepth 20000 in
theorem q277 : Cond.code yX0_enter prog_2_method_2_code 4 (some .int) ∈ zAW := zq_t (List.mem_append_right _ (List.mem_append_left _ (List.mem_of_getElem? (l := tables_1_2) (i := 175) rfl)))
set_option maxRecDepth 20000 in
theorem q278 : Cond.methodLink "ClayTraps" 44 yX0_enter ∈ zAW := zq_t (List.mem_append_right _ (List.mem_append_left _ (List.mem_of_getElem? (l := tables_1_2) (i := 172) rfl)))
set_option maxRecDepth 20000 in
theorem q279 : Cond.instanceMethod yX0_enter ∈ zAW := zq_t (List.mem_append_right _ (List.mem_append_left _ (List.mem_of_getElem? (l := tables_1_2) (i := 173) rfl)))
set_option maxRecDepth 20000 in
theorem q280 : Cond.selects "ClayTraps$Squad" yX0_enter yX0_enter ∈ zAW := zq_t (List.mem_append_right _ (List.mem_append_left _ (List.mem_of_getElem? (l := tables_1_2) (i := 174) rfl)))
set_option maxRecDepth 20000 in
theorem q281 : Cond.codeWith yL_setTrap method_4_code 6 (some .int) [(0, 12, 15, 21), (0, 12, 19, 13)] ∈ zAW := zq_t (List.mem_append_right _ (List.mem_append_left _ (List.mem_of_getElem? (l := tables_1_2) (i := 178) rfl)))
set_option maxRecDepth 20000 in
theorem q282 : Cond.methodLink "ClayTrapsLaw" 92 yL_setTrap ∈ zAW := zq_t (List.mem_append_right _ (List.mem_append_left _ (List.mem_of_getElem? (l := tables_1_2) (i := 176) rfl)))
set_option maxRecDepth 20000 in
theorem q283 : Cond.static yL_setTrap ∈ zAW := zq_t (List.mem_append_right _ (List.mem_append_left _ (List.mem_of_getElem? (l := tables_1_2) (i := 177) rfl)))
set_option maxRecDepth 20000 in
theorem q284 : Cond.code yX2_setTrap prog_1_method_3_code 5 (some .int) ∈ zAW := zq_t (List.mem_append_right _ (List.mem_append_left _ (List.mem_of_getElem? (l := tables_1_2) (i := 183) rfl)))
set_option maxRecDepth 20000 in
theorem q285 : Cond.methodLink "ClayTrapsLaw" 17 yX2_setTrap ∈ zAW := zq_t (List.mem_append_right _ (List.mem_append_left _ (List.mem_of_getElem? (l := tables_1_2) (i := 180) rfl)))
set_option maxRecDepth 20000 in
theorem q286 : Cond.instanceMethod yX2_setTrap ∈ zAW := zq_t (List.mem_append_right _ (List.mem_append_left _ (List.mem_of_getElem? (l := tables_1_2) (i := 181) rfl)))
set_option maxRecDepth 20000 in
theorem q287 : Cond.selects "ClayTraps" yX2_setTrap yX2_setTrap ∈ zAW := zq_t (List.mem_append_right _ (List.mem_append_left _ (List.mem_of_getElem? (l := tables_1_2) (i := 182) rfl)))
set_option maxRecDepth 20000 in
theorem q288 : Cond.codeWith yL_rest method_5_code 4 (some .int) [(0, 9, 12, 21)] ∈ zAW := zq_t (List.mem_append_right _ (List.mem_append_left _ (List.mem_of_getElem? (l := tables_1_2) (i := 188) rfl)))
set_option maxRecDepth 20000 in
theorem q289 : Cond.methodLink "ClayTrapsLaw" 96 yL_rest ∈ zAW := zq_t (List.mem_append_right _ (List.mem_append_left _ (List.mem_of_getElem? (l := tables_1_2) (i := 186) rfl)))
set_option maxRecDepth 20000 in
theorem q290 : Cond.static yL_rest ∈ zAW := zq_t (List.mem_append_right _ (List.mem_append_left _ (List.mem_of_getElem? (l := tables_1_2) (i := 187) rfl)))
set_option maxRecDepth 20000 in
theorem q291 : Cond.code yX2_rest prog_1_method_4_code 3 (some .int) ∈ zAW := zq_t (List.mem_append_right _ (List.mem_append_left _ (List.mem_of_getElem? (l := tables_1_2) (i := 192) rfl)))
set_option maxRecDepth 20000 in
theorem q292 : Cond.methodLink "ClayTrapsLaw" 23 yX2_rest ∈ zAW := zq_t (List.mem_append_right _ (List.mem_append_left _ (List.mem_of_getElem? (l := tables_1_2) (i := 189) rfl)))
set_option maxRecDepth 20000 in
theorem q293 : Cond.instanceMethod yX2_rest ∈ zAW := zq_t (List.mem_append_right _ (List.mem_append_left _ (List.mem_of_getElem? (l := tables_1_2) (i := 190) rfl)))
set_option maxRecDepth 20000 in
theorem q294 : Cond.selects "ClayTraps" yX2_rest yX2_rest ∈ zAW := zq_t (List.mem_append_right _ (List.mem_append_left _ (List.mem_of_getElem? (l := tables_1_2) (i := 191) rfl)))
set_option maxRecDepth 20000 in
theorem q295 : Cond.codeWith yL_pass method_6_code 4 (some .int) [(0, 9, 12, 13)] ∈ zAW := zq_t (List.mem_append_right _ (List.mem_append_left _ (List.mem_of_getElem? (l := tables_1_2) (i := 195) rfl)))
set_option maxRecDepth 20000 in
theorem q296 : Cond.methodLink "ClayTrapsLaw" 100 yL_pass ∈ zAW := zq_t (List.mem_append_right _ (List.mem_append_left _ (List.mem_of_getElem? (l := tables_1_2) (i := 193) rfl)))
set_option maxRecDepth 20000 in
theorem q297 : Cond.static yL_pass ∈ zAW := zq_t (List.mem_append_right _ (List.mem_append_left _ (List.mem_of_getElem? (l := tables_1_2) (i := 194) rfl)))
set_option maxRecDepth 20000 in
theorem q298 : Cond.code yX2_pass prog_1_method_5_code 3 (some .int) ∈ zAW := zq_t (List.mem_append_right _ (List.mem_append_left _ (List.mem_of_getElem? (l := tables_1_2) (i := 199) rfl)))
set_option maxRecDepth 20000 in
theorem q299 : Cond.methodLink "ClayTrapsLaw" 27 yX2_pass ∈ zAW := zq_t (List.mem_append_right _ (List.mem_append_left _ (List.mem_of_getElem? (l := tables_1_2) (i := 196) rfl)))
set_option maxRecDepth 20000 in
theorem q300 : Cond.instanceMethod yX2_pass ∈ zAW := zq_t (List.mem_append_right _ (List.mem_append_left _ (List.mem_of_getElem? (l := tables_1_2) (i := 197) rfl)))
set_option maxRecDepth 20000 in
theorem q301 : Cond.selects "ClayTraps" yX2_pass yX2_pass ∈ zAW := zq_t (List.mem_append_right _ (List.mem_append_left _ (List.mem_of_getElem? (l := tables_1_2) (i := 198) rfl)))
set_option maxRecDepth 20000 in
theorem q302 : Cond.codeWith yL_shootOff method_7_code 3 (some .int) [(0, 8, 11, 15)] ∈ zAW := zq_t (List.mem_append_right _ (List.mem_append_left _ (List.mem_of_getElem? (l := tables_1_2) (i := 202) rfl)))
set_option maxRecDepth 20000 in
theorem q303 : Cond.methodLink "ClayTrapsLaw" 103 yL_shootOff ∈ zAW := zq_t (List.mem_append_right _ (List.mem_append_left _ (List.mem_of_getElem? (l := tables_1_2) (i := 200) rfl)))
set_option maxRecDepth 20000 in
theorem q304 : Cond.static yL_shootOff ∈ zAW := zq_t (List.mem_append_right _ (List.mem_append_left _ (List.mem_of_getElem? (l := tables_1_2) (i := 201) rfl)))
set_option maxRecDepth 20000 in
theorem q305 : Cond.code yX2_shootOff prog_1_method_6_code 1 (some .int) ∈ zAW := zq_t (List.mem_append_right _ (List.mem_append_left _ (List.mem_of_getElem? (l := tables_1_2) (i := 206) rfl)))
set_option maxRecDepth 20000 in
theorem q306 : Cond.methodLink "ClayTrapsLaw" 30 yX2_shootOff ∈ zAW := zq_t (List.mem_append_right _ (List.mem_append_left _ (List.mem_of_getElem? (l := tables_1_2) (i := 203) rfl)))
set_option maxRecDepth 20000 in
theorem q307 : Cond.instanceMethod yX2_shootOff ∈ zAW := zq_t (List.mem_append_right _ (List.mem_append_left _ (List.mem_of_getElem? (l := tables_1_2) (i := 204) rfl)))
set_option maxRecDepth 20000 in
theorem q308 : Cond.selects "ClayTraps" yX2_shootOff yX2_shootOff ∈ zAW := zq_t (List.mem_append_right _ (List.mem_append_left _ (List.mem_of_getElem? (l := tables_1_2) (i := 205) rfl)))
set_option maxRecDepth 20000 in
theorem q309 : Cond.codeWith yL_angle method_8_code 5 (some .int) [(0, 10, 13, 21)] ∈ zAW := zq_t (List.mem_append_right _ (List.mem_append_left _ (List.mem_of_getElem? (l := tables_1_2) (i := 210) rfl)))
set_option maxRecDepth 20000 in
theorem q310 : Cond.methodLink "ClayTrapsLaw" 111 yL_angle ∈ zAW := zq_t (List.mem_append_right _ (List.mem_append_left _ (List.mem_of_getElem? (l := tables_1_2) (i := 208) rfl)))
set_option maxRecDepth 20000 in
theorem q311 : Cond.static yL_angle ∈ zAW := zq_t (List.mem_append_right _ (List.mem_append_left _ (List.mem_of_getElem? (l := tables_1_2) (i := 209) rfl)))
set_option maxRecDepth 20000 in
theorem q312 : Cond.methodLink "ClayTrapsLaw" 34 yX2_angle ∈ zAW := zq_t (List.mem_append_right _ (List.mem_append_left _ (List.mem_of_getElem? (l := tables_1_2) (i := 211) rfl)))
set_option maxRecDepth 20000 in
theorem q313 : Cond.codeWith yL_hardestClay method_9_code 4 (some .int) [(0, 9, 12, 21)] ∈ zAW := zq_t (List.mem_append_right _ (List.mem_append_left _ (List.mem_of_getElem? (l := tables_1_2) (i := 214) rfl)))
set_option maxRecDepth 20000 in
theorem q314 : Cond.methodLink "ClayTrapsLaw" 114 yL_hardestClay ∈ zAW := zq_t (List.mem_append_right _ (List.mem_append_left _ (List.mem_of_getElem? (l := tables_1_2) (i := 212) rfl)))
set_option maxRecDepth 20000 in
theorem q315 : Cond.static yL_hardestClay ∈ zAW := zq_t (List.mem_append_right _ (List.mem_append_left _ (List.mem_of_getElem? (l := tables_1_2) (i := 213) rfl)))
set_option maxRecDepth 20000 in
theorem q316 : Cond.methodLink "ClayTrapsLaw" 37 yX2_hardestClay ∈ zAW := zq_t (List.mem_append_right _ (List.mem_append_left _ (List.mem_of_getElem? (l := tables_1_2) (i := 215) rfl)))
set_option maxRecDepth 20000 in
theorem q317 : Cond.codeWith yL_standOf method_10_code 4 (some .int) [(0, 9, 12, 21)] ∈ zAW := zq_t (List.mem_append_right _ (List.mem_append_left _ (List.mem_of_getElem? (l := tables_1_2) (i := 218) rfl)))
set_option maxRecDepth 20000 in
theorem q318 : Cond.methodLink "ClayTrapsLaw" 117 yL_standOf ∈ zAW := zq_t (List.mem_append_right _ (List.mem_append_left _ (List.mem_of_getElem? (l := tables_1_2) (i := 216) rfl)))
set_option maxRecDepth 20000 in
theorem q319 : Cond.static yL_standOf ∈ zAW := zq_t (List.mem_append_right _ (List.mem_append_left _ (List.mem_of_getElem? (l := tables_1_2) (i := 217) rfl)))
set_option maxRecDepth 20000 in
theorem q320 : Cond.methodLink "ClayTrapsLaw" 40 yX2_standOf ∈ zAW := zq_t (List.mem_append_right _ (List.mem_append_left _ (List.mem_of_getElem? (l := tables_1_2) (i := 219) rfl)))
set_option maxRecDepth 20000 in
theorem q321 : Cond.codeWith yL_angleFor method_11_code 4 (some .int) [(0, 9, 12, 21)] ∈ zAW := zq_t (List.mem_append_right _ (List.mem_append_left _ (List.mem_of_getElem? (l := tables_1_2) (i := 222) rfl)))
set_option maxRecDepth 20000 in
theorem q322 : Cond.methodLink "ClayTrapsLaw" 120 yL_angleFor ∈ zAW := zq_t (List.mem_append_right _ (List.mem_append_left _ (List.mem_of_getElem? (l := tables_1_2) (i := 220) rfl)))
set_option maxRecDepth 20000 in
theorem q323 : Cond.static yL_angleFor ∈ zAW := zq_t (List.mem_append_right _ (List.mem_append_left _ (List.mem_of_getElem? (l := tables_1_2) (i := 221) rfl)))
set_option maxRecDepth 20000 in
theorem q324 : Cond.methodLink "ClayTrapsLaw" 43 yX2_angleFor ∈ zAW := zq_t (List.mem_append_right _ (List.mem_append_left _ (List.mem_of_getElem? (l := tables_1_2) (i := 223) rfl)))
set_option maxRecDepth 20000 in
theorem q325 : Cond.codeWith yL_scoreOf method_12_code 4 (some .int) [(0, 9, 12, 21)] ∈ zAW := zq_t (List.mem_append_right _ (List.mem_append_left _ (List.mem_of_getElem? (l := tables_1_2) (i := 226) rfl)))
set_option maxRecDepth 20000 in
theorem q326 : Cond.methodLink "ClayTrapsLaw" 127 yL_scoreOf ∈ zAW := zq_t (List.mem_append_right _ (List.mem_append_left _ (List.mem_of_getElem? (l := tables_1_2) (i := 224) rfl)))
set_option maxRecDepth 20000 in
theorem q327 : Cond.static yL_scoreOf ∈ zAW := zq_t (List.mem_append_right _ (List.mem_append_left _ (List.mem_of_getElem? (l := tables_1_2) (i := 225) rfl)))
set_option maxRecDepth 20000 in
theorem q328 : Cond.methodLink "ClayTrapsLaw" 46 yX2_scoreOf ∈ zAW := zq_t (List.mem_append_right _ (List.mem_append_left _ (List.mem_of_getElem? (l := tables_1_2) (i := 227) rfl)))
set_option maxRecDepth 20000 in
theorem q329 : Cond.codeWith yL_firstsOf method_13_code 4 (some .int) [(0, 9, 12, 21)] ∈ zAW := zq_t (List.mem_append_right _ (List.mem_append_left _ (List.mem_of_getElem? (l := tables_1_2) (i := 230) rfl)))
set_option maxRecDepth 20000 in
theorem q330 : Cond.methodLink "ClayTrapsLaw" 130 yL_firstsOf ∈ zAW := zq_t (List.mem_append_right _ (List.mem_append_left _ (List.mem_of_getElem? (l := tables_1_2) (i := 228) rfl)))
set_option maxRecDepth 20000 in
theorem q331 : Cond.static yL_firstsOf ∈ zAW := zq_t (List.mem_append_right _ (List.mem_append_left _ (List.mem_of_getElem? (l := tables_1_2) (i := 229) rfl)))
set_option maxRecDepth 20000 in
theorem q332 : Cond.methodLink "ClayTrapsLaw" 49 yX2_firstsOf ∈ zAW := zq_t (List.mem_append_right _ (List.mem_append_left _ (List.mem_of_getElem? (l := tables_1_2) (i := 231) rfl)))
set_option maxRecDepth 20000 in
theorem q333 : Cond.codeWith yL_missesOf method_14_code 4 (some .int) [(0, 9, 12, 21)] ∈ zAW := zq_t (List.mem_append_right _ (List.mem_append_left _ (List.mem_of_getElem? (l := tables_1_2) (i := 234) rfl)))
set_option maxRecDepth 20000 in
theorem q334 : Cond.methodLink "ClayTrapsLaw" 133 yL_missesOf ∈ zAW := zq_t (List.mem_append_right _ (List.mem_append_left _ (List.mem_of_getElem? (l := tables_1_2) (i := 232) rfl)))
set_option maxRecDepth 20000 in
theorem q335 : Cond.static yL_missesOf ∈ zAW := zq_t (List.mem_append_right _ (List.mem_append_left _ (List.mem_of_getElem? (l := tables_1_2) (i := 233) rfl)))
set_option maxRecDepth 20000 in
theorem q336 : Cond.methodLink "ClayTrapsLaw" 52 yX2_missesOf ∈ zAW := zq_t (List.mem_append_right _ (List.mem_append_left _ (List.mem_of_getElem? (l := tables_1_2) (i := 235) rfl)))
set_option maxRecDepth 20000 in
theorem q337 : Cond.codeWith yL_fatigueOf method_15_code 4 (some .int) [(0, 9, 12, 21)] ∈ zAW := zq_t (List.mem_append_right _ (List.mem_append_left _ (List.mem_of_getElem? (l := tables_1_2) (i := 238) rfl)))
set_option maxRecDepth 20000 in
theorem q338 : Cond.methodLink "ClayTrapsLaw" 136 yL_fatigueOf ∈ zAW := zq_t (List.mem_append_right _ (List.mem_append_left _ (List.mem_of_getElem? (l := tables_1_2) (i := 236) rfl)))
set_option maxRecDepth 20000 in
theorem q339 : Cond.static yL_fatigueOf ∈ zAW := zq_t (List.mem_append_right _ (List.mem_append_left _ (List.mem_of_getElem? (l := tables_1_2) (i := 237) rfl)))
set_option maxRecDepth 20000 in
theorem q340 : Cond.methodLink "ClayTrapsLaw" 55 yX2_fatigueOf ∈ zAW := zq_t (List.mem_append_right _ (List.mem_append_left _ (List.mem_of_getElem? (l := tables_1_2) (i := 239) rfl)))
set_option maxRecDepth 20000 in
theorem q341 : Cond.codeWith yL_wouldHit method_16_code 4 (some .int) [(0, 9, 12, 21)] ∈ zAW := zq_t (List.mem_append_right _ (List.mem_append_right _ (List.mem_append_left _ (List.mem_of_getElem? (l := tables_1_3) (i := 2) rfl))))
set_option maxRecDepth 20000 in
theorem q342 : Cond.methodLink "ClayTrapsLaw" 139 yL_wouldHit ∈ zAW := zq_t (List.mem_append_right _ (List.mem_append_right _ (List.mem_append_left _ (List.mem_of_getElem? (l := tables_1_3) (i := 0) rfl))))
set_option maxRecDepth 20000 in
theorem q343 : Cond.static yL_wouldHit ∈ zAW := zq_t (List.mem_append_right _ (List.mem_append_right _ (List.mem_append_left _ (List.mem_of_getElem? (l := tables_1_3) (i := 1) rfl))))
set_option maxRecDepth 20000 in
theorem q344 : Cond.methodLink "ClayTrapsLaw" 58 yX2_wouldHit ∈ zAW := zq_t (List.mem_append_right _ (List.mem_append_right _ (List.mem_append_left _ (List.mem_of_getElem? (l := tables_1_3) (i := 3) rfl))))
set_option maxRecDepth 20000 in
theorem q345 : Cond.codeWith yL_rankOf method_17_code 4 (some .int) [(0, 9, 12, 21)] ∈ zAW := zq_t (List.mem_append_right _ (List.mem_append_right _ (List.mem_append_left _ (List.mem_of_getElem? (l := tables_1_3) (i := 6) rfl))))
set_option maxRecDepth 20000 in
theorem q346 : Cond.methodLink "ClayTrapsLaw" 150 yL_rankOf ∈ zAW := zq_t (List.mem_append_right _ (List.mem_append_right _ (List.mem_append_left _ (List.mem_of_getElem? (l := tables_1_3) (i := 4) rfl))))
set_option maxRecDepth 20000 in
theorem q347 : Cond.static yL_rankOf ∈ zAW := zq_t (List.mem_append_right _ (List.mem_append_right _ (List.mem_append_left _ (List.mem_of_getElem? (l := tables_1_3) (i := 5) rfl))))
set_option maxRecDepth 20000 in
theorem q348 : Cond.methodLink "ClayTrapsLaw" 61 yX2_rankOf ∈ zAW := zq_t (List.mem_append_right _ (List.mem_append_right _ (List.mem_append_left _ (List.mem_of_getElem? (l := tables_1_3) (i := 7) rfl))))
set_option maxRecDepth 20000 in
theorem q349 : Cond.codeWith yL_scoreIn method_18_code 5 (some .int) [(0, 10, 13, 21), (0, 10, 17, 13)] ∈ zAW := zq_t (List.mem_append_right _ (List.mem_append_right _ (List.mem_append_left _ (List.mem_of_getElem? (l := tables_1_3) (i := 10) rfl))))
set_option maxRecDepth 20000 in
theorem q350 : Cond.methodLink "ClayTrapsLaw" 153 yL_scoreIn ∈ zAW := zq_t (List.mem_append_right _ (List.mem_append_right _ (List.mem_append_left _ (List.mem_of_getElem? (l := tables_1_3) (i := 8) rfl))))
set_option maxRecDepth 20000 in
theorem q351 : Cond.static yL_scoreIn ∈ zAW := zq_t (List.mem_append_right _ (List.mem_append_right _ (List.mem_append_left _ (List.mem_of_getElem? (l := tables_1_3) (i := 9) rfl))))
set_option maxRecDepth 20000 in
theorem q352 : Cond.code yX2_scoreIn prog_1_method_21_code 3 (some .int) ∈ zAW := zq_t (List.mem_append_right _ (List.mem_append_right _ (List.mem_append_left _ (List.mem_of_getElem? (l := tables_1_3) (i := 14) rfl))))
set_option maxRecDepth 20000 in
theorem q353 : Cond.methodLink "ClayTrapsLaw" 64 yX2_scoreIn ∈ zAW := zq_t (List.mem_append_right _ (List.mem_append_right _ (List.mem_append_left _ (List.mem_of_getElem? (l := tables_1_3) (i := 11) rfl))))
set_option maxRecDepth 20000 in
theorem q354 : Cond.instanceMethod yX2_scoreIn ∈ zAW := zq_t (List.mem_append_right _ (List.mem_append_right _ (List.mem_append_left _ (List.mem_of_getElem? (l := tables_1_3) (i := 12) rfl))))
set_option maxRecDepth 20000 in
theorem q355 : Cond.selects "ClayTraps" yX2_scoreIn yX2_scoreIn ∈ zAW := zq_t (List.mem_append_right _ (List.mem_append_right _ (List.mem_append_left _ (List.mem_of_getElem? (l := tables_1_3) (i := 13) rfl))))
set_option maxRecDepth 20000 in
theorem q356 : Cond.codeWith yL_turnsUntilMiss method_19_code 4 (some .int) [(0, 9, 12, 21)] ∈ zAW := zq_t (List.mem_append_right _ (List.mem_append_right _ (List.mem_append_left _ (List.mem_of_getElem? (l := tables_1_3) (i := 17) rfl))))
set_option maxRecDepth 20000 in
theorem q357 : Cond.methodLink "ClayTrapsLaw" 156 yL_turnsUntilMiss ∈ zAW := zq_t (List.mem_append_right _ (List.mem_append_right _ (List.mem_append_left _ (List.mem_of_getElem? (l := tables_1_3) (i := 15) rfl))))
set_option maxRecDepth 20000 in
theorem q358 : Cond.static yL_turnsUntilMiss ∈ zAW := zq_t (List.mem_append_right _ (List.mem_append_right _ (List.mem_append_left _ (List.mem_of_getElem? (l := tables_1_3) (i := 16) rfl))))
set_option maxRecDepth 20000 in
theorem q359 : Cond.methodLink "ClayTrapsLaw" 67 yX2_turnsUntilMiss ∈ zAW := zq_t (List.mem_append_right _ (List.mem_append_right _ (List.mem_append_left _ (List.mem_of_getElem? (l := tables_1_3) (i := 18) rfl))))
set_option maxRecDepth 20000 in
theorem q360 : Cond.codeWith yL_leaderIn method_20_code 4 (some .int) [(0, 9, 12, 13)] ∈ zAW := zq_t (List.mem_append_right _ (List.mem_append_right _ (List.mem_append_left _ (List.mem_of_getElem? (l := tables_1_3) (i := 21) rfl))))
set_option maxRecDepth 20000 in
theorem q361 : Cond.methodLink "ClayTrapsLaw" 159 yL_leaderIn ∈ zAW := zq_t (List.mem_append_right _ (List.mem_append_right _ (List.mem_append_left _ (List.mem_of_getElem? (l := tables_1_3) (i := 19) rfl))))
set_option maxRecDepth 20000 in
theorem q362 : Cond.static yL_leaderIn ∈ zAW := zq_t (List.mem_append_right _ (List.mem_append_right _ (List.mem_append_left _ (List.mem_of_getElem? (l := tables_1_3) (i := 20) rfl))))
set_option maxRecDepth 20000 in
theorem q363 : Cond.methodLink "ClayTrapsLaw" 70 yX2_leaderIn ∈ zAW := zq_t (List.mem_append_right _ (List.mem_append_right _ (List.mem_append_left _ (List.mem_of_getElem? (l := tables_1_3) (i := 22) rfl))))
set_option maxRecDepth 20000 in
theorem q364 : Cond.codeWith yL_bestRest method_21_code 4 (some .int) [(0, 9, 12, 21)] ∈ zAW := zq_t (List.mem_append_right _ (List.mem_append_right _ (List.mem_append_left _ (List.mem_of_getElem? (l := tables_1_3) (i := 25) rfl))))
set_option maxRecDepth 20000 in
theorem q365 : Cond.methodLink "ClayTrapsLaw" 166 yL_bestRest ∈ zAW := zq_t (List.mem_append_right _ (List.mem_append_right _ (List.mem_append_left _ (List.mem_of_getElem? (l := tables_1_3) (i := 23) rfl))))
set_option maxRecDepth 20000 in
theorem q366 : Cond.static yL_bestRest ∈ zAW := zq_t (List.mem_append_right _ (List.mem_append_right _ (List.mem_append_left _ (List.mem_of_getElem? (l := tables_1_3) (i := 24) rfl))))
set_option maxRecDepth 20000 in
theorem q367 : Cond.methodLink "ClayTrapsLaw" 73 yX2_bestRest ∈ zAW := zq_t (List.mem_append_right _ (List.mem_append_right _ (List.mem_append_left _ (List.mem_of_getElem? (l := tables_1_3) (i := 26) rfl))))
set_option maxRecDepth 20000 in
theorem q368 : Cond.codeWith yL_swingWanted method_22_code 4 (some .int) [(0, 9, 12, 21)] ∈ zAW := zq_t (List.mem_append_right _ (List.mem_append_right _ (List.mem_append_left _ (List.mem_of_getElem? (l := tables_1_3) (i := 29) rfl))))
set_option maxRecDepth 20000 in
theorem q369 : Cond.methodLink "ClayTrapsLaw" 169 yL_swingWanted ∈ zAW := zq_t (List.mem_append_right _ (List.mem_append_right _ (List.mem_append_left _ (List.mem_of_getElem? (l := tables_1_3) (i := 27) rfl))))
set_option maxRecDepth 20000 in
theorem q370 : Cond.static yL_swingWanted ∈ zAW := zq_t (List.mem_append_right _ (List.mem_append_right _ (List.mem_append_left _ (List.mem_of_getElem? (l := tables_1_3) (i := 28) rfl))))
set_option maxRecDepth 20000 in
theorem q371 : Cond.code yX2_swingWanted prog_1_method_26_code 3 (some .int) ∈ zAW := zq_t (List.mem_append_right _ (List.mem_append_right _ (List.mem_append_left _ (List.mem_of_getElem? (l := tables_1_3) (i := 33) rfl))))
set_option maxRecDepth 20000 in
theorem q372 : Cond.methodLink "ClayTrapsLaw" 76 yX2_swingWanted ∈ zAW := zq_t (List.mem_append_right _ (List.mem_append_right _ (List.mem_append_left _ (List.mem_of_getElem? (l := tables_1_3) (i := 30) rfl))))
set_option maxRecDepth 20000 in
theorem q373 : Cond.instanceMethod yX2_swingWanted ∈ zAW := zq_t (List.mem_append_right _ (List.mem_append_right _ (List.mem_append_left _ (List.mem_of_getElem? (l := tables_1_3) (i := 31) rfl))))
set_option maxRecDepth 20000 in
theorem q374 : Cond.selects "ClayTraps" yX2_swingWanted yX2_swingWanted ∈ zAW := zq_t (List.mem_append_right _ (List.mem_append_right _ (List.mem_append_left _ (List.mem_of_getElem? (l := tables_1_3) (i := 32) rfl))))
set_option maxRecDepth 20000 in
theorem q375 : Cond.code yX1_greatestAmount prog_3_method_7_code 3 (some .int) ∈ zAW := zq_t (List.mem_append_right _ (List.mem_append_right _ (List.mem_append_left _ (List.mem_of_getElem? (l := tables_1_3) (i := 37) rfl))))
set_option maxRecDepth 20000 in
theorem q376 : Cond.methodLink "ClayTraps" 141 yX1_greatestAmount ∈ zAW := zq_t (List.mem_append_right _ (List.mem_append_right _ (List.mem_append_left _ (List.mem_of_getElem? (l := tables_1_3) (i := 34) rfl))))
set_option maxRecDepth 20000 in
theorem q377 : Cond.instanceMethod yX1_greatestAmount ∈ zAW := zq_t (List.mem_append_right _ (List.mem_append_right _ (List.mem_append_left _ (List.mem_of_getElem? (l := tables_1_3) (i := 35) rfl))))
set_option maxRecDepth 20000 in
theorem q378 : Cond.selects "ClayTraps$Traps" yX1_greatestAmount yX1_greatestAmount ∈ zAW := zq_t (List.mem_append_right _ (List.mem_append_right _ (List.mem_append_left _ (List.mem_of_getElem? (l := tables_1_3) (i := 36) rfl))))
set_option maxRecDepth 20000 in
theorem q379 : Cond.methodLink "ClayTraps$Traps" 40 yX1_hardestAt ∈ zAW := zq_t (List.mem_append_right _ (List.mem_append_right _ (List.mem_append_left _ (List.mem_of_getElem? (l := tables_1_3) (i := 38) rfl))))
set_option maxRecDepth 20000 in
theorem q380 : Cond.methodLink "ClayTraps$Traps" 43 yJ9_max_7cf53 ∈ zAW := zq_t (List.mem_append_right _ (List.mem_append_right _ (List.mem_append_left _ (List.mem_of_getElem? (l := tables_1_3) (i := 39) rfl))))
set_option maxRecDepth 20000 in
theorem q381 : Cond.methodLink "ClayTraps" 144 yJ9_max_7cf53 ∈ zAW := zq_t (List.mem_append_right _ (List.mem_append_right _ (List.mem_append_left _ (List.mem_of_getElem? (l := tables_1_3) (i := 40) rfl))))
set_option maxRecDepth 20000 in
theorem q382 : Cond.code yX3_init prog_5_method_1_code 1 none ∈ zAW := zq_t (List.mem_append_right _ (List.mem_append_right _ (List.mem_append_left _ (List.mem_of_getElem? (l := tables_1_3) (i := 45) rfl))))
set_option maxRecDepth 20000 in
theorem q383 : Cond.methodLink "ClayTrapsLaw" 82 yX3_init ∈ zAW := zq_t (List.mem_append_right _ (List.mem_append_right _ (List.mem_append_left _ (List.mem_of_getElem? (l := tables_1_3) (i := 43) rfl))))
set_option maxRecDepth 20000 in
theorem q384 : Cond.instanceMethod yX3_init ∈ zAW := zq_t (List.mem_append_right _ (List.mem_append_right _ (List.mem_append_left _ (List.mem_of_getElem? (l := tables_1_3) (i := 44) rfl))))
set_option maxRecDepth 20000 in
theorem q385 : Cond.initialized "ClayTrapsModel" ∈ zAW := zq_t (List.mem_append_left _ (List.mem_of_getElem? (l := tables_1_1) (i := 4) rfl))
set_option maxRecDepth 20000 in
theorem q386 : Cond.methodLink "ClayTrapsModel" 3 (⟨"java/lang/Object", "<init>", "()V"⟩ : MethodName) ∈ zAW := zq_t (List.mem_append_right _ (List.mem_append_right _ (List.mem_append_left _ (List.mem_of_getElem? (l := tables_1_3) (i := 46) rfl))))
set_option maxRecDepth 20000 in
theorem q387 : Cond.code yX3_thrown prog_5_method_2_code 1 (some .int) ∈ zAW := zq_t (List.mem_append_right _ (List.mem_append_right _ (List.mem_append_left _ (List.mem_of_getElem? (l := tables_1_3) (i := 75) rfl))))
set_option maxRecDepth 20000 in
theorem q388 : Cond.methodLink "ClayTrapsLaw" 89 yX3_thrown ∈ zAW := zq_t (List.mem_append_right _ (List.mem_append_right _ (List.mem_append_left _ (List.mem_of_getElem? (l := tables_1_3) (i := 72) rfl))))
set_option maxRecDepth 20000 in
theorem q389 : Cond.instanceMethod yX3_thrown ∈ zAW := zq_t (List.mem_append_right _ (List.mem_append_right _ (List.mem_append_left _ (List.mem_of_getElem? (l := tables_1_3) (i := 73) rfl))))
set_option maxRecDepth 20000 in
theorem q390 : Cond.selects "ClayTrapsModel" yX3_thrown yX3_thrown ∈ zAW := zq_t (List.mem_append_right _ (List.mem_append_right _ (List.mem_append_left _ (List.mem_of_getElem? (l := tables_1_3) (i := 74) rfl))))
set_option maxRecDepth 20000 in
theorem q391 : Cond.code yX3_addGun prog_5_method_21_code 3 (some .int) ∈ zAW := zq_t (List.mem_append_right _ (List.mem_append_right _ (List.mem_append_left _ (List.mem_of_getElem? (l := tables_1_3) (i := 79) rfl))))
set_option maxRecDepth 20000 in
theorem q392 : Cond.methodLink "ClayTrapsLaw" 88 yX3_addGun ∈ zAW := zq_t (List.mem_append_right _ (List.mem_append_right _ (List.mem_append_left _ (List.mem_of_getElem? (l := tables_1_3) (i := 76) rfl))))
set_option maxRecDepth 20000 in
theorem q393 : Cond.instanceMethod yX3_addGun ∈ zAW := zq_t (List.mem_append_right _ (List.mem_append_right _ (List.mem_append_left _ (List.mem_of_getElem? (l := tables_1_3) (i := 77) rfl))))
set_option maxRecDepth 20000 in
theorem q394 : Cond.selects "ClayTrapsModel" yX3_addGun yX3_addGun ∈ zAW := zq_t (List.mem_append_right _ (List.mem_append_right _ (List.mem_append_left _ (List.mem_of_getElem? (l := tables_1_3) (i := 78) rfl))))
set_option maxRecDepth 20000 in
theorem q395 : Cond.code yX3_isFrom prog_5_method_5_code 3 (some .boolean) ∈ zAW := zq_t (List.mem_append_right _ (List.mem_append_right _ (List.mem_append_left _ (List.mem_of_getElem? (l := tables_1_3) (i := 82) rfl))))
set_option maxRecDepth 20000 in
theorem q396 : Cond.methodLink "ClayTrapsModel" 35 yX3_isFrom ∈ zAW := zq_t (List.mem_append_right _ (List.mem_append_right _ (List.mem_append_left _ (List.mem_of_getElem? (l := tables_1_3) (i := 80) rfl))))
set_option maxRecDepth 20000 in
theorem q397 : Cond.static yX3_isFrom ∈ zAW := zq_t (List.mem_append_right _ (List.mem_append_right _ (List.mem_append_left _ (List.mem_of_getElem? (l := tables_1_3) (i := 81) rfl))))
set_option maxRecDepth 20000 in
theorem q398 : Cond.code yX3_no prog_5_method_3_code 2 (some .int) ∈ zAW := zq_t (List.mem_append_right _ (List.mem_append_right _ (List.mem_append_left _ (List.mem_of_getElem? (l := tables_1_3) (i := 86) rfl))))
set_option maxRecDepth 20000 in
theorem q399 : Cond.methodLink "ClayTrapsModel" 92 yX3_no ∈ zAW := zq_t (List.mem_append_right _ (List.mem_append_right _ (List.mem_append_left _ (List.mem_of_getElem? (l := tables_1_3) (i := 83) rfl))))
set_option maxRecDepth 20000 in
theorem q400 : Cond.instanceMethod yX3_no ∈ zAW := zq_t (List.mem_append_right _ (List.mem_append_right _ (List.mem_append_left _ (List.mem_of_getElem? (l := tables_1_3) (i := 85) rfl))))
set_option maxRecDepth 20000 in
theorem q401 : Cond.selects "ClayTrapsModel" yX3_no yX3_no ∈ zAW := zq_s (List.mem_of_getElem? (l := k2_sels lw_privs) (i := 3) rfl)
set_option maxRecDepth 20000 in
theorem q402 : Cond.code yX3_setTrap prog_5_method_22_code 5 (some .int) ∈ zAW := zq_t (List.mem_append_right _ (List.mem_append_right _ (List.mem_append_left _ (List.mem_of_getElem? (l := tables_1_3) (i := 90) rfl))))
set_option maxRecDepth 20000 in
theorem q403 : Cond.methodLink "ClayTrapsLaw" 95 yX3_setTrap ∈ zAW := zq_t (List.mem_append_right _ (List.mem_append_right _ (List.mem_append_left _ (List.mem_of_getElem? (l := tables_1_3) (i := 87) rfl))))
set_option maxRecDepth 20000 in
theorem q404 : Cond.instanceMethod yX3_setTrap ∈ zAW := zq_t (List.mem_append_right _ (List.mem_append_right _ (List.mem_append_left _ (List.mem_of_getElem? (l := tables_1_3) (i := 88) rfl))))
set_option maxRecDepth 20000 in
theorem q405 : Cond.selects "ClayTrapsModel" yX3_setTrap yX3_setTrap ∈ zAW := zq_t (List.mem_append_right _ (List.mem_append_right _ (List.mem_append_left _ (List.mem_of_getElem? (l := tables_1_3) (i := 89) rfl))))
set_option maxRecDepth 20000 in
theorem q406 : Cond.code yX3_rest prog_5_method_23_code 3 (some .int) ∈ zAW := zq_t (List.mem_append_right _ (List.mem_append_right _ (List.mem_append_left _ (List.mem_of_getElem? (l := tables_1_3) (i := 94) rfl))))
set_option maxRecDepth 20000 in
theorem q407 : Cond.methodLink "ClayTrapsLaw" 99 yX3_rest ∈ zAW := zq_t (List.mem_append_right _ (List.mem_append_right _ (List.mem_append_left _ (List.mem_of_getElem? (l := tables_1_3) (i := 91) rfl))))
set_option maxRecDepth 20000 in
theorem q408 : Cond.instanceMethod yX3_rest ∈ zAW := zq_t (List.mem_append_right _ (List.mem_append_right _ (List.mem_append_left _ (List.mem_of_getElem? (l := tables_1_3) (i := 92) rfl))))
set_option maxRecDepth 20000 in
theorem q409 : Cond.selects "ClayTrapsModel" yX3_rest yX3_rest ∈ zAW := zq_t (List.mem_append_right _ (List.mem_append_right _ (List.mem_append_left _ (List.mem_of_getElem? (l := tables_1_3) (i := 93) rfl))))
set_option maxRecDepth 20000 in
theorem q410 : Cond.code yX3_isGun prog_5_method_6_code 2 (some .boolean) ∈ zAW := zq_t (List.mem_append_right _ (List.mem_append_right _ (List.mem_append_left _ (List.mem_of_getElem? (l := tables_1_3) (i := 98) rfl))))
set_option maxRecDepth 20000 in
theorem q411 : Cond.methodLink "ClayTrapsModel" 95 yX3_isGun ∈ zAW := zq_t (List.mem_append_right _ (List.mem_append_right _ (List.mem_append_left _ (List.mem_of_getElem? (l := tables_1_3) (i := 95) rfl))))
set_option maxRecDepth 20000 in
theorem q412 : Cond.instanceMethod yX3_isGun ∈ zAW := zq_t (List.mem_append_right _ (List.mem_append_right _ (List.mem_append_left _ (List.mem_of_getElem? (l := tables_1_3) (i := 97) rfl))))
set_option maxRecDepth 20000 in
theorem q413 : Cond.selects "ClayTrapsModel" yX3_isGun yX3_isGun ∈ zAW := zq_s (List.mem_of_getElem? (l := k2_sels lw_privs) (i := 4) rfl)
set_option maxRecDepth 20000 in
theorem q414 : Cond.code yX3_pass prog_5_method_24_code 3 (some .int) ∈ zAW := zq_t (List.mem_append_right _ (List.mem_append_right _ (List.mem_append_left _ (List.mem_of_getElem? (l := tables_1_3) (i := 102) rfl))))
set_option maxRecDepth 20000 in
theorem q415 : Cond.methodLink "ClayTrapsLaw" 102 yX3_pass ∈ zAW := zq_t (List.mem_append_right _ (List.mem_append_right _ (List.mem_append_left _ (List.mem_of_getElem? (l := tables_1_3) (i := 99) rfl))))
set_option maxRecDepth 20000 in
theorem q416 : Cond.instanceMethod yX3_pass ∈ zAW := zq_t (List.mem_append_right _ (List.mem_append_right _ (List.mem_append_left _ (List.mem_of_getElem? (l := tables_1_3) (i := 100) rfl))))
set_option maxRecDepth 20000 in
theorem q417 : Cond.selects "ClayTrapsModel" yX3_pass yX3_pass ∈ zAW := zq_t (List.mem_append_right _ (List.mem_append_right _ (List.mem_append_left _ (List.mem_of_getElem? (l := tables_1_3) (i := 101) rfl))))
set_option maxRecDepth 20000 in
theorem q418 : Cond.code yX3_missed prog_5_method_17_code 3 (some .int) ∈ zAW := zq_t (List.mem_append_right _ (List.mem_append_right _ (List.mem_append_left _ (List.mem_of_getElem? (l := tables_1_3) (i := 106) rfl))))
set_option maxRecDepth 20000 in
theorem q419 : Cond.methodLink "ClayTrapsModel" 99 yX3_missed ∈ zAW := zq_t (List.mem_append_right _ (List.mem_append_right _ (List.mem_append_left _ (List.mem_of_getElem? (l := tables_1_3) (i := 103) rfl))))
set_option maxRecDepth 20000 in
theorem q420 : Cond.instanceMethod yX3_missed ∈ zAW := zq_t (List.mem_append_right _ (List.mem_append_right _ (List.mem_append_left _ (List.mem_of_getElem? (l := tables_1_3) (i := 105) rfl))))
set_option maxRecDepth 20000 in
theorem q421 : Cond.selects "ClayTrapsModel" yX3_missed yX3_missed ∈ zAW := zq_s (List.mem_of_getElem? (l := k2_sels lw_privs) (i := 5) rfl)
set_option maxRecDepth 20000 in
theorem q422 : Cond.code yX3_turnsOn prog_5_method_16_code 3 none ∈ zAW := zq_t (List.mem_append_right _ (List.mem_append_right _ (List.mem_append_left _ (List.mem_of_getElem? (l := tables_1_3) (i := 110) rfl))))
set_option maxRecDepth 20000 in
theorem q423 : Cond.methodLink "ClayTrapsModel" 102 yX3_turnsOn ∈ zAW := zq_t (List.mem_append_right _ (List.mem_append_right _ (List.mem_append_left _ (List.mem_of_getElem? (l := tables_1_3) (i := 107) rfl))))
set_option maxRecDepth 20000 in
theorem q424 : Cond.instanceMethod yX3_turnsOn ∈ zAW := zq_t (List.mem_append_right _ (List.mem_append_right _ (List.mem_append_left _ (List.mem_of_getElem? (l := tables_1_3) (i := 109) rfl))))
set_option maxRecDepth 20000 in
theorem q425 : Cond.selects "ClayTrapsModel" yX3_turnsOn yX3_turnsOn ∈ zAW := zq_s (List.mem_of_getElem? (l := k2_sels lw_privs) (i := 6) rfl)
set_option maxRecDepth 20000 in
theorem q426 : Cond.code yX3_turnOn prog_5_method_15_code 2 none ∈ zAW := zq_t (List.mem_append_right _ (List.mem_append_right _ (List.mem_append_left _ (List.mem_of_getElem? (l := tables_1_3) (i := 114) rfl))))
set_option maxRecDepth 20000 in
theorem q427 : Cond.methodLink "ClayTrapsModel" 75 yX3_turnOn ∈ zAW := zq_t (List.mem_append_right _ (List.mem_append_right _ (List.mem_append_left _ (List.mem_of_getElem? (l := tables_1_3) (i := 111) rfl))))
set_option maxRecDepth 20000 in
theorem q428 : Cond.instanceMethod yX3_turnOn ∈ zAW := zq_t (List.mem_append_right _ (List.mem_append_right _ (List.mem_append_left _ (List.mem_of_getElem? (l := tables_1_3) (i := 113) rfl))))
set_option maxRecDepth 20000 in
theorem q429 : Cond.selects "ClayTrapsModel" yX3_turnOn yX3_turnOn ∈ zAW := zq_s (List.mem_of_getElem? (l := k2_sels lw_privs) (i := 7) rfl)
set_option maxRecDepth 20000 in
theorem q430 : Cond.code yX3_shoot prog_5_method_14_code 3 none ∈ zAW := zq_t (List.mem_append_right _ (List.mem_append_right _ (List.mem_append_left _ (List.mem_of_getElem? (l := tables_1_3) (i := 118) rfl))))
set_option maxRecDepth 20000 in
theorem q431 : Cond.methodLink "ClayTrapsModel" 68 yX3_shoot ∈ zAW := zq_t (List.mem_append_right _ (List.mem_append_right _ (List.mem_append_left _ (List.mem_of_getElem? (l := tables_1_3) (i := 115) rfl))))
set_option maxRecDepth 20000 in
theorem q432 : Cond.instanceMethod yX3_shoot ∈ zAW := zq_t (List.mem_append_right _ (List.mem_append_right _ (List.mem_append_left _ (List.mem_of_getElem? (l := tables_1_3) (i := 117) rfl))))
set_option maxRecDepth 20000 in
theorem q433 : Cond.selects "ClayTrapsModel" yX3_shoot yX3_shoot ∈ zAW := zq_s (List.mem_of_getElem? (l := k2_sels lw_privs) (i := 8) rfl)
set_option maxRecDepth 20000 in
theorem q434 : Cond.code yX3_hit prog_5_method_13_code 2 (some .int) ∈ zAW := zq_t (List.mem_append_right _ (List.mem_append_right _ (List.mem_append_left _ (List.mem_of_getElem? (l := tables_1_3) (i := 122) rfl))))
set_option maxRecDepth 20000 in
theorem q435 : Cond.methodLink "ClayTrapsModel" 65 yX3_hit ∈ zAW := zq_t (List.mem_append_right _ (List.mem_append_right _ (List.mem_append_left _ (List.mem_of_getElem? (l := tables_1_3) (i := 119) rfl))))
set_option maxRecDepth 20000 in
theorem q436 : Cond.instanceMethod yX3_hit ∈ zAW := zq_t (List.mem_append_right _ (List.mem_append_right _ (List.mem_append_left _ (List.mem_of_getElem? (l := tables_1_3) (i := 121) rfl))))
set_option maxRecDepth 20000 in
theorem q437 : Cond.selects "ClayTrapsModel" yX3_hit yX3_hit ∈ zAW := zq_s (List.mem_of_getElem? (l := k2_sels lw_privs) (i := 9) rfl)
set_option maxRecDepth 20000 in
theorem q438 : Cond.code yX3_far prog_5_method_12_code 2 (some .int) ∈ zAW := zq_t (List.mem_append_right _ (List.mem_append_right _ (List.mem_append_left _ (List.mem_of_getElem? (l := tables_1_3) (i := 126) rfl))))
set_option maxRecDepth 20000 in
theorem q439 : Cond.methodLink "ClayTrapsModel" 62 yX3_far ∈ zAW := zq_t (List.mem_append_right _ (List.mem_append_right _ (List.mem_append_left _ (List.mem_of_getElem? (l := tables_1_3) (i := 123) rfl))))
set_option maxRecDepth 20000 in
theorem q440 : Cond.instanceMethod yX3_far ∈ zAW := zq_t (List.mem_append_right _ (List.mem_append_right _ (List.mem_append_left _ (List.mem_of_getElem? (l := tables_1_3) (i := 125) rfl))))
set_option maxRecDepth 20000 in
theorem q441 : Cond.selects "ClayTrapsModel" yX3_far yX3_far ∈ zAW := zq_s (List.mem_of_getElem? (l := k2_sels lw_privs) (i := 10) rfl)
set_option maxRecDepth 20000 in
theorem q442 : Cond.code yX3_stand prog_5_method_11_code 2 (some .int) ∈ zAW := zq_t (List.mem_append_right _ (List.mem_append_right _ (List.mem_append_left _ (List.mem_of_getElem? (l := tables_1_3) (i := 130) rfl))))
set_option maxRecDepth 20000 in
theorem q443 : Cond.methodLink "ClayTrapsModel" 45 yX3_stand ∈ zAW := zq_t (List.mem_append_right _ (List.mem_append_right _ (List.mem_append_left _ (List.mem_of_getElem? (l := tables_1_3) (i := 127) rfl))))
set_option maxRecDepth 20000 in
theorem q444 : Cond.instanceMethod yX3_stand ∈ zAW := zq_t (List.mem_append_right _ (List.mem_append_right _ (List.mem_append_left _ (List.mem_of_getElem? (l := tables_1_3) (i := 129) rfl))))
set_option maxRecDepth 20000 in
theorem q445 : Cond.selects "ClayTrapsModel" yX3_stand yX3_stand ∈ zAW := zq_s (List.mem_of_getElem? (l := k2_sels lw_privs) (i := 11) rfl)
set_option maxRecDepth 20000 in
theorem q446 : Cond.code yX3_clay prog_5_method_10_code 1 (some .int) ∈ zAW := zq_t (List.mem_append_right _ (List.mem_append_right _ (List.mem_append_left _ (List.mem_of_getElem? (l := tables_1_3) (i := 134) rfl))))
set_option maxRecDepth 20000 in
theorem q447 : Cond.methodLink "ClayTrapsModel" 49 yX3_clay ∈ zAW := zq_t (List.mem_append_right _ (List.mem_append_right _ (List.mem_append_left _ (List.mem_of_getElem? (l := tables_1_3) (i := 131) rfl))))
set_option maxRecDepth 20000 in
theorem q448 : Cond.instanceMethod yX3_clay ∈ zAW := zq_t (List.mem_append_right _ (List.mem_append_right _ (List.mem_append_left _ (List.mem_of_getElem? (l := tables_1_3) (i := 133) rfl))))
set_option maxRecDepth 20000 in
theorem q449 : Cond.selects "ClayTrapsModel" yX3_clay yX3_clay ∈ zAW := zq_s (List.mem_of_getElem? (l := k2_sels lw_privs) (i := 12) rfl)
set_option maxRecDepth 20000 in
theorem q450 : Cond.code yX3_at prog_5_method_9_code 3 (some .int) ∈ zAW := zq_t (List.mem_append_right _ (List.mem_append_right _ (List.mem_append_left _ (List.mem_of_getElem? (l := tables_1_3) (i := 138) rfl))))
set_option maxRecDepth 20000 in
theorem q451 : Cond.methodLink "ClayTrapsModel" 53 yX3_at ∈ zAW := zq_t (List.mem_append_right _ (List.mem_append_right _ (List.mem_append_left _ (List.mem_of_getElem? (l := tables_1_3) (i := 135) rfl))))
set_option maxRecDepth 20000 in
theorem q452 : Cond.instanceMethod yX3_at ∈ zAW := zq_t (List.mem_append_right _ (List.mem_append_right _ (List.mem_append_left _ (List.mem_of_getElem? (l := tables_1_3) (i := 137) rfl))))
set_option maxRecDepth 20000 in
theorem q453 : Cond.selects "ClayTrapsModel" yX3_at yX3_at ∈ zAW := zq_s (List.mem_of_getElem? (l := k2_sels lw_privs) (i := 13) rfl)
set_option maxRecDepth 20000 in
theorem q454 : Cond.methodLink "ClayTrapsModel" 57 yJ9_abs_0f7a4 ∈ zAW := zq_t (List.mem_append_right _ (List.mem_append_right _ (List.mem_append_left _ (List.mem_of_getElem? (l := tables_1_3) (i := 139) rfl))))
set_option maxRecDepth 20000 in
theorem q455 : Cond.methodLink "ClayTrapsModel" 72 yJ9_max_7cf53 ∈ zAW := zq_t (List.mem_append_right _ (List.mem_append_right _ (List.mem_append_left _ (List.mem_of_getElem? (l := tables_1_3) (i := 140) rfl))))
set_option maxRecDepth 20000 in
theorem q456 : Cond.code yX3_shootOff prog_5_method_25_code 2 (some .int) ∈ zAW := zq_t (List.mem_append_right _ (List.mem_append_right _ (List.mem_append_left _ (List.mem_of_getElem? (l := tables_1_3) (i := 144) rfl))))
set_option maxRecDepth 20000 in
theorem q457 : Cond.methodLink "ClayTrapsLaw" 106 yX3_shootOff ∈ zAW := zq_t (List.mem_append_right _ (List.mem_append_right _ (List.mem_append_left _ (List.mem_of_getElem? (l := tables_1_3) (i := 141) rfl))))
set_option maxRecDepth 20000 in
theorem q458 : Cond.instanceMethod yX3_shootOff ∈ zAW := zq_t (List.mem_append_right _ (List.mem_append_right _ (List.mem_append_left _ (List.mem_of_getElem? (l := tables_1_3) (i := 142) rfl))))
set_option maxRecDepth 20000 in
theorem q459 : Cond.selects "ClayTrapsModel" yX3_shootOff yX3_shootOff ∈ zAW := zq_t (List.mem_append_right _ (List.mem_append_right _ (List.mem_append_left _ (List.mem_of_getElem? (l := tables_1_3) (i := 143) rfl))))
set_option maxRecDepth 20000 in
theorem q460 : Cond.code yX3_win prog_5_method_20_code 5 (some .int) ∈ zAW := zq_t (List.mem_append_right _ (List.mem_append_right _ (List.mem_append_left _ (List.mem_of_getElem? (l := tables_1_3) (i := 148) rfl))))
set_option maxRecDepth 20000 in
theorem q461 : Cond.methodLink "ClayTrapsModel" 105 yX3_win ∈ zAW := zq_t (List.mem_append_right _ (List.mem_append_right _ (List.mem_append_left _ (List.mem_of_getElem? (l := tables_1_3) (i := 145) rfl))))
set_option maxRecDepth 20000 in
theorem q462 : Cond.instanceMethod yX3_win ∈ zAW := zq_t (List.mem_append_right _ (List.mem_append_right _ (List.mem_append_left _ (List.mem_of_getElem? (l := tables_1_3) (i := 147) rfl))))
set_option maxRecDepth 20000 in
theorem q463 : Cond.selects "ClayTrapsModel" yX3_win yX3_win ∈ zAW := zq_s (List.mem_of_getElem? (l := k2_sels lw_privs) (i := 14) rfl)
set_option maxRecDepth 20000 in
theorem q464 : Cond.code yX3_best prog_5_method_19_code 3 (some .int) ∈ zAW := zq_t (List.mem_append_right _ (List.mem_append_right _ (List.mem_append_left _ (List.mem_of_getElem? (l := tables_1_3) (i := 152) rfl))))
set_option maxRecDepth 20000 in
theorem q465 : Cond.methodLink "ClayTrapsModel" 81 yX3_best ∈ zAW := zq_t (List.mem_append_right _ (List.mem_append_right _ (List.mem_append_left _ (List.mem_of_getElem? (l := tables_1_3) (i := 149) rfl))))
set_option maxRecDepth 20000 in
theorem q466 : Cond.instanceMethod yX3_best ∈ zAW := zq_t (List.mem_append_right _ (List.mem_append_right _ (List.mem_append_left _ (List.mem_of_getElem? (l := tables_1_3) (i := 151) rfl))))
set_option maxRecDepth 20000 in
theorem q467 : Cond.selects "ClayTrapsModel" yX3_best yX3_best ∈ zAW := zq_s (List.mem_of_getElem? (l := k2_sels lw_privs) (i := 15) rfl)
set_option maxRecDepth 20000 in
theorem q468 : Cond.code yX3_first prog_5_method_18_code 3 (some .int) ∈ zAW := zq_t (List.mem_append_right _ (List.mem_append_right _ (List.mem_append_left _ (List.mem_of_getElem? (l := tables_1_3) (i := 156) rfl))))
set_option maxRecDepth 20000 in
theorem q469 : Cond.methodLink "ClayTrapsModel" 78 yX3_first ∈ zAW := zq_t (List.mem_append_right _ (List.mem_append_right _ (List.mem_append_left _ (List.mem_of_getElem? (l := tables_1_3) (i := 153) rfl))))
set_option maxRecDepth 20000 in
theorem q470 : Cond.instanceMethod yX3_first ∈ zAW := zq_t (List.mem_append_right _ (List.mem_append_right _ (List.mem_append_left _ (List.mem_of_getElem? (l := tables_1_3) (i := 155) rfl))))
set_option maxRecDepth 20000 in
theorem q471 : Cond.selects "ClayTrapsModel" yX3_first yX3_first ∈ zAW := zq_s (List.mem_of_getElem? (l := k2_sels lw_privs) (i := 16) rfl)
set_option maxRecDepth 20000 in
theorem q472 : Cond.code yJ6_bitCount_0f7a4 prog_10_method_49_code 1 (some .int) ∈ zAW := zq_t (List.mem_append_right _ (List.mem_append_right _ (List.mem_append_left _ (List.mem_of_getElem? (l := tables_1_3) (i := 159) rfl))))
set_option maxRecDepth 20000 in
theorem q473 : Cond.methodLink "ClayTrapsModel" 84 yJ6_bitCount_0f7a4 ∈ zAW := zq_t (List.mem_append_right _ (List.mem_append_right _ (List.mem_append_left _ (List.mem_of_getElem? (l := tables_1_3) (i := 157) rfl))))
set_option maxRecDepth 20000 in
theorem q474 : Cond.static yJ6_bitCount_0f7a4 ∈ zAW := zq_t (List.mem_append_right _ (List.mem_append_right _ (List.mem_append_left _ (List.mem_of_getElem? (l := tables_1_3) (i := 158) rfl))))
set_option maxRecDepth 20000 in
theorem q475 : Cond.initialized "java/lang/Integer" ∈ zAW := zq_t (List.mem_append_left _ (List.mem_of_getElem? (l := tables_1_1) (i := 12) rfl))
set_option maxRecDepth 20000 in
theorem q476 : Cond.code yJ6_numberOfTrailingZeros_0f7a4 prog_10_method_48_code 2 (some .int) ∈ zAW := zq_t (List.mem_append_right _ (List.mem_append_right _ (List.mem_append_left _ (List.mem_of_getElem? (l := tables_1_3) (i := 165) rfl))))
set_option maxRecDepth 20000 in
theorem q477 : Cond.methodLink "ClayTrapsModel" 89 yJ6_numberOfTrailingZeros_0f7a4 ∈ zAW := zq_t (List.mem_append_right _ (List.mem_append_right _ (List.mem_append_left _ (List.mem_of_getElem? (l := tables_1_3) (i := 163) rfl))))
set_option maxRecDepth 20000 in
theorem q478 : Cond.static yJ6_numberOfTrailingZeros_0f7a4 ∈ zAW := zq_t (List.mem_append_right _ (List.mem_append_right _ (List.mem_append_left _ (List.mem_of_getElem? (l := tables_1_3) (i := 164) rfl))))
set_option maxRecDepth 20000 in
theorem q479 : Cond.code yX3_ok prog_5_method_4_code 2 (some .int) ∈ zAW := zq_t (List.mem_append_right _ (List.mem_append_right _ (List.mem_append_left _ (List.mem_of_getElem? (l := tables_1_3) (i := 170) rfl))))
set_option maxRecDepth 20000 in
theorem q480 : Cond.methodLink "ClayTrapsModel" 108 yX3_ok ∈ zAW := zq_t (List.mem_append_right _ (List.mem_append_right _ (List.mem_append_left _ (List.mem_of_getElem? (l := tables_1_3) (i := 167) rfl))))
set_option maxRecDepth 20000 in
theorem q481 : Cond.instanceMethod yX3_ok ∈ zAW := zq_t (List.mem_append_right _ (List.mem_append_right _ (List.mem_append_left _ (List.mem_of_getElem? (l := tables_1_3) (i := 169) rfl))))
set_option maxRecDepth 20000 in
theorem q482 : Cond.selects "ClayTrapsModel" yX3_ok yX3_ok ∈ zAW := zq_s (List.mem_of_getElem? (l := k2_sels lw_privs) (i := 17) rfl)
set_option maxRecDepth 20000 in
theorem q483 : Cond.code yX3_turn prog_5_method_26_code 1 (some .int) ∈ zAW := zq_t (List.mem_append_right _ (List.mem_append_right _ (List.mem_append_left _ (List.mem_of_getElem? (l := tables_1_3) (i := 174) rfl))))
set_option maxRecDepth 20000 in
theorem q484 : Cond.methodLink "ClayTrapsLaw" 110 yX3_turn ∈ zAW := zq_t (List.mem_append_right _ (List.mem_append_right _ (List.mem_append_left _ (List.mem_of_getElem? (l := tables_1_3) (i := 171) rfl))))
set_option maxRecDepth 20000 in
theorem q485 : Cond.instanceMethod yX3_turn ∈ zAW := zq_t (List.mem_append_right _ (List.mem_append_right _ (List.mem_append_left _ (List.mem_of_getElem? (l := tables_1_3) (i := 172) rfl))))
set_option maxRecDepth 20000 in
theorem q486 : Cond.selects "ClayTrapsModel" yX3_turn yX3_turn ∈ zAW := zq_t (List.mem_append_right _ (List.mem_append_right _ (List.mem_append_left _ (List.mem_of_getElem? (l := tables_1_3) (i := 173) rfl))))
set_option maxRecDepth 20000 in
theorem q487 : Cond.code yX3_angle prog_5_method_27_code 3 (some .int) ∈ zAW := zq_t (List.mem_append_right _ (List.mem_append_right _ (List.mem_append_left _ (List.mem_of_getElem? (l := tables_1_3) (i := 178) rfl))))
set_option maxRecDepth 20000 in
theorem q488 : Cond.methodLink "ClayTrapsLaw" 113 yX3_angle ∈ zAW := zq_t (List.mem_append_right _ (List.mem_append_right _ (List.mem_append_left _ (List.mem_of_getElem? (l := tables_1_3) (i := 175) rfl))))
set_option maxRecDepth 20000 in
theorem q489 : Cond.instanceMethod yX3_angle ∈ zAW := zq_t (List.mem_append_right _ (List.mem_append_right _ (List.mem_append_left _ (List.mem_of_getElem? (l := tables_1_3) (i := 176) rfl))))
set_option maxRecDepth 20000 in
theorem q490 : Cond.selects "ClayTrapsModel" yX3_angle yX3_angle ∈ zAW := zq_t (List.mem_append_right _ (List.mem_append_right _ (List.mem_append_left _ (List.mem_of_getElem? (l := tables_1_3) (i := 177) rfl))))
set_option maxRecDepth 20000 in
theorem q491 : Cond.code yX3_hardestClay prog_5_method_29_code 2 (some .int) ∈ zAW := zq_t (List.mem_append_right _ (List.mem_append_right _ (List.mem_append_left _ (List.mem_of_getElem? (l := tables_1_3) (i := 182) rfl))))
set_option maxRecDepth 20000 in
theorem q492 : Cond.methodLink "ClayTrapsLaw" 116 yX3_hardestClay ∈ zAW := zq_t (List.mem_append_right _ (List.mem_append_right _ (List.mem_append_left _ (List.mem_of_getElem? (l := tables_1_3) (i := 179) rfl))))
set_option maxRecDepth 20000 in
theorem q493 : Cond.instanceMethod yX3_hardestClay ∈ zAW := zq_t (List.mem_append_right _ (List.mem_append_right _ (List.mem_append_left _ (List.mem_of_getElem? (l := tables_1_3) (i := 180) rfl))))
set_option maxRecDepth 20000 in
theorem q494 : Cond.selects "ClayTrapsModel" yX3_hardestClay yX3_hardestClay ∈ zAW := zq_t (List.mem_append_right _ (List.mem_append_right _ (List.mem_append_left _ (List.mem_of_getElem? (l := tables_1_3) (i := 181) rfl))))
set_option maxRecDepth 20000 in
theorem q495 : Cond.code yX3_hardest prog_5_method_28_code 4 (some .int) ∈ zAW := zq_t (List.mem_append_right _ (List.mem_append_right _ (List.mem_append_left _ (List.mem_of_getElem? (l := tables_1_3) (i := 186) rfl))))
set_option maxRecDepth 20000 in
theorem q496 : Cond.methodLink "ClayTrapsModel" 111 yX3_hardest ∈ zAW := zq_t (List.mem_append_right _ (List.mem_append_right _ (List.mem_append_left _ (List.mem_of_getElem? (l := tables_1_3) (i := 183) rfl))))
set_option maxRecDepth 20000 in
theorem q497 : Cond.instanceMethod yX3_hardest ∈ zAW := zq_t (List.mem_append_right _ (List.mem_append_right _ (List.mem_append_left _ (List.mem_of_getElem? (l := tables_1_3) (i := 185) rfl))))
set_option maxRecDepth 20000 in
theorem q498 : Cond.selects "ClayTrapsModel" yX3_hardest yX3_hardest ∈ zAW := zq_s (List.mem_of_getElem? (l := k2_sels lw_privs) (i := 18) rfl)
set_option maxRecDepth 20000 in
theorem q499 : Cond.code yX3_standOf prog_5_method_30_code 2 (some .int) ∈ zAW := zq_t (List.mem_append_right _ (List.mem_append_right _ (List.mem_append_left _ (List.mem_of_getElem? (l := tables_1_3) (i := 190) rfl))))
set_option maxRecDepth 20000 in
theorem q500 : Cond.methodLink "ClayTrapsLaw" 119 yX3_standOf ∈ zAW := zq_t (List.mem_append_right _ (List.mem_append_right _ (List.mem_append_left _ (List.mem_of_getElem? (l := tables_1_3) (i := 187) rfl))))
set_option maxRecDepth 20000 in
theorem q501 : Cond.instanceMethod yX3_standOf ∈ zAW := zq_t (List.mem_append_right _ (List.mem_append_right _ (List.mem_append_left _ (List.mem_of_getElem? (l := tables_1_3) (i := 188) rfl))))
set_option maxRecDepth 20000 in
theorem q502 : Cond.selects "ClayTrapsModel" yX3_standOf yX3_standOf ∈ zAW := zq_t (List.mem_append_right _ (List.mem_append_right _ (List.mem_append_left _ (List.mem_of_getElem? (l := tables_1_3) (i := 189) rfl))))
set_option maxRecDepth 20000 in
theorem q503 : Cond.code yX3_angleFor prog_5_method_31_code 2 (some .int) ∈ zAW := zq_t (List.mem_append_right _ (List.mem_append_right _ (List.mem_append_left _ (List.mem_of_getElem? (l := tables_1_3) (i := 194) rfl))))
set_option maxRecDepth 20000 in
theorem q504 : Cond.methodLink "ClayTrapsLaw" 122 yX3_angleFor ∈ zAW := zq_t (List.mem_append_right _ (List.mem_append_right _ (List.mem_append_left _ (List.mem_of_getElem? (l := tables_1_3) (i := 191) rfl))))
set_option maxRecDepth 20000 in
theorem q505 : Cond.instanceMethod yX3_angleFor ∈ zAW := zq_t (List.mem_append_right _ (List.mem_append_right _ (List.mem_append_left _ (List.mem_of_getElem? (l := tables_1_3) (i := 192) rfl))))
set_option maxRecDepth 20000 in
theorem q506 : Cond.selects "ClayTrapsModel" yX3_angleFor yX3_angleFor ∈ zAW := zq_t (List.mem_append_right _ (List.mem_append_right _ (List.mem_append_left _ (List.mem_of_getElem? (l := tables_1_3) (i := 193) rfl))))
set_option maxRecDepth 20000 in
theorem q507 : Cond.code yX3_guns prog_5_method_32_code 1 (some .int) ∈ zAW := zq_t (List.mem_append_right _ (List.mem_append_right _ (List.mem_append_left _ (List.mem_of_getElem? (l := tables_1_3) (i := 198) rfl))))
set_option maxRecDepth 20000 in
theorem q508 : Cond.methodLink "ClayTrapsLaw" 126 yX3_guns ∈ zAW := zq_t (List.mem_append_right _ (List.mem_append_right _ (List.mem_append_left _ (List.mem_of_getElem? (l := tables_1_3) (i := 195) rfl))))
set_option maxRecDepth 20000 in
theorem q509 : Cond.instanceMethod yX3_guns ∈ zAW := zq_t (List.mem_append_right _ (List.mem_append_right _ (List.mem_append_left _ (List.mem_of_getElem? (l := tables_1_3) (i := 196) rfl))))
set_option maxRecDepth 20000 in
theorem q510 : Cond.selects "ClayTrapsModel" yX3_guns yX3_guns ∈ zAW := zq_t (List.mem_append_right _ (List.mem_append_right _ (List.mem_append_left _ (List.mem_of_getElem? (l := tables_1_3) (i := 197) rfl))))
set_option maxRecDepth 20000 in
theorem q511 : Cond.code yX3_scoreOf prog_5_method_34_code 2 (some .int) ∈ zAW := zq_t (List.mem_append_right _ (List.mem_append_right _ (List.mem_append_left _ (List.mem_of_getElem? (l := tables_1_3) (i := 202) rfl))))
set_option maxRecDepth 20000 in
theorem q512 : Cond.methodLink "ClayTrapsLaw" 129 yX3_scoreOf ∈ zAW := zq_t (List.mem_append_right _ (List.mem_append_right _ (List.mem_append_left _ (List.mem_of_getElem? (l := tables_1_3) (i := 199) rfl))))
set_option maxRecDepth 20000 in
theorem q513 : Cond.instanceMethod yX3_scoreOf ∈ zAW := zq_t (List.mem_append_right _ (List.mem_append_right _ (List.mem_append_left _ (List.mem_of_getElem? (l := tables_1_3) (i := 200) rfl))))
set_option maxRecDepth 20000 in
theorem q514 : Cond.selects "ClayTrapsModel" yX3_scoreOf yX3_scoreOf ∈ zAW := zq_t (List.mem_append_right _ (List.mem_append_right _ (List.mem_append_left _ (List.mem_of_getElem? (l := tables_1_3) (i := 201) rfl))))
set_option maxRecDepth 20000 in
theorem q515 : Cond.code yX3_ofGun prog_5_method_33_code 3 (some .int) ∈ zAW := zq_t (List.mem_append_right _ (List.mem_append_right _ (List.mem_append_left _ (List.mem_of_getElem? (l := tables_1_3) (i := 206) rfl))))
set_option maxRecDepth 20000 in
theorem q516 : Cond.methodLink "ClayTrapsModel" 114 yX3_ofGun ∈ zAW := zq_t (List.mem_append_right _ (List.mem_append_right _ (List.mem_append_left _ (List.mem_of_getElem? (l := tables_1_3) (i := 203) rfl))))
set_option maxRecDepth 20000 in
theorem q517 : Cond.instanceMethod yX3_ofGun ∈ zAW := zq_t (List.mem_append_right _ (List.mem_append_right _ (List.mem_append_left _ (List.mem_of_getElem? (l := tables_1_3) (i := 205) rfl))))
set_option maxRecDepth 20000 in
theorem q518 : Cond.selects "ClayTrapsModel" yX3_ofGun yX3_ofGun ∈ zAW := zq_s (List.mem_of_getElem? (l := k2_sels lw_privs) (i := 19) rfl)
set_option maxRecDepth 20000 in
theorem q519 : Cond.code yX3_firstsOf prog_5_method_35_code 2 (some .int) ∈ zAW := zq_t (List.mem_append_right _ (List.mem_append_right _ (List.mem_append_left _ (List.mem_of_getElem? (l := tables_1_3) (i := 210) rfl))))
set_option maxRecDepth 20000 in
theorem q520 : Cond.methodLink "ClayTrapsLaw" 132 yX3_firstsOf ∈ zAW := zq_t (List.mem_append_right _ (List.mem_append_right _ (List.mem_append_left _ (List.mem_of_getElem? (l := tables_1_3) (i := 207) rfl))))
set_option maxRecDepth 20000 in
theorem q521 : Cond.instanceMethod yX3_firstsOf ∈ zAW := zq_t (List.mem_append_right _ (List.mem_append_right _ (List.mem_append_left _ (List.mem_of_getElem? (l := tables_1_3) (i := 208) rfl))))
set_option maxRecDepth 20000 in
theorem q522 : Cond.selects "ClayTrapsModel" yX3_firstsOf yX3_firstsOf ∈ zAW := zq_t (List.mem_append_right _ (List.mem_append_right _ (List.mem_append_left _ (List.mem_of_getElem? (l := tables_1_3) (i := 209) rfl))))
set_option maxRecDepth 20000 in
theorem q523 : Cond.code yX3_missesOf prog_5_method_36_code 2 (some .int) ∈ zAW := zq_t (List.mem_append_right _ (List.mem_append_right _ (List.mem_append_left _ (List.mem_of_getElem? (l := tables_1_3) (i := 214) rfl))))
set_option maxRecDepth 20000 in
theorem q524 : Cond.methodLink "ClayTrapsLaw" 135 yX3_missesOf ∈ zAW := zq_t (List.mem_append_right _ (List.mem_append_right _ (List.mem_append_left _ (List.mem_of_getElem? (l := tables_1_3) (i := 211) rfl))))
set_option maxRecDepth 20000 in
theorem q525 : Cond.instanceMethod yX3_missesOf ∈ zAW := zq_t (List.mem_append_right _ (List.mem_append_right _ (List.mem_append_left _ (List.mem_of_getElem? (l := tables_1_3) (i := 212) rfl))))
set_option maxRecDepth 20000 in
theorem q526 : Cond.selects "ClayTrapsModel" yX3_missesOf yX3_missesOf ∈ zAW := zq_t (List.mem_append_right _ (List.mem_append_right _ (List.mem_append_left _ (List.mem_of_getElem? (l := tables_1_3) (i := 213) rfl))))
set_option maxRecDepth 20000 in
theorem q527 : Cond.code yX3_fatigueOf prog_5_method_37_code 2 (some .int) ∈ zAW := zq_t (List.mem_append_right _ (List.mem_append_right _ (List.mem_append_left _ (List.mem_of_getElem? (l := tables_1_3) (i := 218) rfl))))
set_option maxRecDepth 20000 in
theorem q528 : Cond.methodLink "ClayTrapsLaw" 138 yX3_fatigueOf ∈ zAW := zq_t (List.mem_append_right _ (List.mem_append_right _ (List.mem_append_left _ (List.mem_of_getElem? (l := tables_1_3) (i := 215) rfl))))
set_option maxRecDepth 20000 in
theorem q529 : Cond.instanceMethod yX3_fatigueOf ∈ zAW := zq_t (List.mem_append_right _ (List.mem_append_right _ (List.mem_append_left _ (List.mem_of_getElem? (l := tables_1_3) (i := 216) rfl))))
set_option maxRecDepth 20000 in
theorem q530 : Cond.selects "ClayTrapsModel" yX3_fatigueOf yX3_fatigueOf ∈ zAW := zq_t (List.mem_append_right _ (List.mem_append_right _ (List.mem_append_left _ (List.mem_of_getElem? (l := tables_1_3) (i := 217) rfl))))
set_option maxRecDepth 20000 in
theorem q531 : Cond.code yX3_wouldHit prog_5_method_38_code 2 (some .int) ∈ zAW := zq_t (List.mem_append_right _ (List.mem_append_right _ (List.mem_append_left _ (List.mem_of_getElem? (l := tables_1_3) (i := 222) rfl))))
set_option maxRecDepth 20000 in
theorem q532 : Cond.methodLink "ClayTrapsLaw" 141 yX3_wouldHit ∈ zAW := zq_t (List.mem_append_right _ (List.mem_append_right _ (List.mem_append_left _ (List.mem_of_getElem? (l := tables_1_3) (i := 219) rfl))))
set_option maxRecDepth 20000 in
theorem q533 : Cond.instanceMethod yX3_wouldHit ∈ zAW := zq_t (List.mem_append_right _ (List.mem_append_right _ (List.mem_append_left _ (List.mem_of_getElem? (l := tables_1_3) (i := 220) rfl))))
set_option maxRecDepth 20000 in
theorem q534 : Cond.selects "ClayTrapsModel" yX3_wouldHit yX3_wouldHit ∈ zAW := zq_t (List.mem_append_right _ (List.mem_append_right _ (List.mem_append_left _ (List.mem_of_getElem? (l := tables_1_3) (i := 221) rfl))))
set_option maxRecDepth 20000 in
theorem q535 : Cond.code yX3_leader prog_5_method_39_code 1 (some .int) ∈ zAW := zq_t (List.mem_append_right _ (List.mem_append_right _ (List.mem_append_left _ (List.mem_of_getElem? (l := tables_1_3) (i := 226) rfl))))
set_option maxRecDepth 20000 in
theorem q536 : Cond.methodLink "ClayTrapsLaw" 145 yX3_leader ∈ zAW := zq_t (List.mem_append_right _ (List.mem_append_right _ (List.mem_append_left _ (List.mem_of_getElem? (l := tables_1_3) (i := 223) rfl))))
set_option maxRecDepth 20000 in
theorem q537 : Cond.instanceMethod yX3_leader ∈ zAW := zq_t (List.mem_append_right _ (List.mem_append_right _ (List.mem_append_left _ (List.mem_of_getElem? (l := tables_1_3) (i := 224) rfl))))
set_option maxRecDepth 20000 in
theorem q538 : Cond.selects "ClayTrapsModel" yX3_leader yX3_leader ∈ zAW := zq_t (List.mem_append_right _ (List.mem_append_right _ (List.mem_append_left _ (List.mem_of_getElem? (l := tables_1_3) (i := 225) rfl))))
set_option maxRecDepth 20000 in
theorem q539 : Cond.code yX3_tied prog_5_method_40_code 1 (some .int) ∈ zAW := zq_t (List.mem_append_right _ (List.mem_append_right _ (List.mem_append_left _ (List.mem_of_getElem? (l := tables_1_3) (i := 230) rfl))))
set_option maxRecDepth 20000 in
theorem q540 : Cond.methodLink "ClayTrapsLaw" 149 yX3_tied ∈ zAW := zq_t (List.mem_append_right _ (List.mem_append_right _ (List.mem_append_left _ (List.mem_of_getElem? (l := tables_1_3) (i := 227) rfl))))
set_option maxRecDepth 20000 in
theorem q541 : Cond.instanceMethod yX3_tied ∈ zAW := zq_t (List.mem_append_right _ (List.mem_append_right _ (List.mem_append_left _ (List.mem_of_getElem? (l := tables_1_3) (i := 228) rfl))))
set_option maxRecDepth 20000 in
theorem q542 : Cond.selects "ClayTrapsModel" yX3_tied yX3_tied ∈ zAW := zq_t (List.mem_append_right _ (List.mem_append_right _ (List.mem_append_left _ (List.mem_of_getElem? (l := tables_1_3) (i := 229) rfl))))
set_option maxRecDepth 20000 in
theorem q543 : Cond.code yX3_rankOf prog_5_method_42_code 2 (some .int) ∈ zAW := zq_t (List.mem_append_right _ (List.mem_append_right _ (List.mem_append_left _ (List.mem_of_getElem? (l := tables_1_3) (i := 234) rfl))))
set_option maxRecDepth 20000 in
theorem q544 : Cond.methodLink "ClayTrapsLaw" 152 yX3_rankOf ∈ zAW := zq_t (List.mem_append_right _ (List.mem_append_right _ (List.mem_append_left _ (List.mem_of_getElem? (l := tables_1_3) (i := 231) rfl))))
set_option maxRecDepth 20000 in
theorem q545 : Cond.instanceMethod yX3_rankOf ∈ zAW := zq_t (List.mem_append_right _ (List.mem_append_right _ (List.mem_append_left _ (List.mem_of_getElem? (l := tables_1_3) (i := 232) rfl))))
set_option maxRecDepth 20000 in
theorem q546 : Cond.selects "ClayTrapsModel" yX3_rankOf yX3_rankOf ∈ zAW := zq_t (List.mem_append_right _ (List.mem_append_right _ (List.mem_append_left _ (List.mem_of_getElem? (l := tables_1_3) (i := 233) rfl))))
set_option maxRecDepth 20000 in
theorem q547 : Cond.code yX3_rank prog_5_method_41_code 4 (some .int) ∈ zAW := zq_t (List.mem_append_right _ (List.mem_append_right _ (List.mem_append_left _ (List.mem_of_getElem? (l := tables_1_3) (i := 238) rfl))))
set_option maxRecDepth 20000 in
theorem q548 : Cond.methodLink "ClayTrapsModel" 117 yX3_rank ∈ zAW := zq_t (List.mem_append_right _ (List.mem_append_right _ (List.mem_append_left _ (List.mem_of_getElem? (l := tables_1_3) (i := 235) rfl))))
set_option maxRecDepth 20000 in
theorem q549 : Cond.instanceMethod yX3_rank ∈ zAW := zq_t (List.mem_append_right _ (List.mem_append_right _ (List.mem_append_left _ (List.mem_of_getElem? (l := tables_1_3) (i := 237) rfl))))
set_option maxRecDepth 20000 in
theorem q550 : Cond.selects "ClayTrapsModel" yX3_rank yX3_rank ∈ zAW := zq_s (List.mem_of_getElem? (l := k2_sels lw_privs) (i := 20) rfl)
set_option maxRecDepth 20000 in
theorem q551 : Cond.code yX3_scoreIn prog_5_method_43_code 4 (some .int) ∈ zAW := zq_t (List.mem_append_right _ (List.mem_append_right _ (List.mem_append_right _ (List.mem_of_getElem? (l := tables_1_4) (i := 2) rfl))))
set_option maxRecDepth 20000 in
theorem q552 : Cond.methodLink "ClayTrapsLaw" 155 yX3_scoreIn ∈ zAW := zq_t (List.mem_append_right _ (List.mem_append_right _ (List.mem_append_left _ (List.mem_of_getElem? (l := tables_1_3) (i := 239) rfl))))
set_option maxRecDepth 20000 in
theorem q553 : Cond.instanceMethod yX3_scoreIn ∈ zAW := zq_t (List.mem_append_right _ (List.mem_append_right _ (List.mem_append_right _ (List.mem_of_getElem? (l := tables_1_4) (i := 0) rfl))))
set_option maxRecDepth 20000 in
theorem q554 : Cond.selects "ClayTrapsModel" yX3_scoreIn yX3_scoreIn ∈ zAW := zq_t (List.mem_append_right _ (List.mem_append_right _ (List.mem_append_right _ (List.mem_of_getElem? (l := tables_1_4) (i := 1) rfl))))
set_option maxRecDepth 20000 in
theorem q555 : Cond.code yX3_keep prog_5_method_7_code 1 none ∈ zAW := zq_t (List.mem_append_right _ (List.mem_append_right _ (List.mem_append_right _ (List.mem_of_getElem? (l := tables_1_4) (i := 6) rfl))))
set_option maxRecDepth 20000 in
theorem q556 : Cond.methodLink "ClayTrapsModel" 120 yX3_keep ∈ zAW := zq_t (List.mem_append_right _ (List.mem_append_right _ (List.mem_append_right _ (List.mem_of_getElem? (l := tables_1_4) (i := 3) rfl))))
set_option maxRecDepth 20000 in
theorem q557 : Cond.instanceMethod yX3_keep ∈ zAW := zq_t (List.mem_append_right _ (List.mem_append_right _ (List.mem_append_right _ (List.mem_of_getElem? (l := tables_1_4) (i := 5) rfl))))
set_option maxRecDepth 20000 in
theorem q558 : Cond.selects "ClayTrapsModel" yX3_keep yX3_keep ∈ zAW := zq_s (List.mem_of_getElem? (l := k2_sels lw_privs) (i := 21) rfl)
set_option maxRecDepth 20000 in
theorem q559 : Cond.methodLink "ClayTrapsModel" 39 (⟨"java/lang/System", "arraycopy", "(Ljava/lang/Object;ILjava/lang/Object;II)V"⟩ : MethodName) ∈ zAW := zq_t (List.mem_append_right _ (List.mem_append_right _ (List.mem_append_right _ (List.mem_of_getElem? (l := tables_1_4) (i := 7) rfl))))
set_option maxRecDepth 20000 in
theorem q560 : Cond.code yX3_bringBack prog_5_method_8_code 1 none ∈ zAW := zq_t (List.mem_append_right _ (List.mem_append_right _ (List.mem_append_right _ (List.mem_of_getElem? (l := tables_1_4) (i := 13) rfl))))
set_option maxRecDepth 20000 in
theorem q561 : Cond.methodLink "ClayTrapsModel" 123 yX3_bringBack ∈ zAW := zq_t (List.mem_append_right _ (List.mem_append_right _ (List.mem_append_right _ (List.mem_of_getElem? (l := tables_1_4) (i := 10) rfl))))
set_option maxRecDepth 20000 in
theorem q562 : Cond.instanceMethod yX3_bringBack ∈ zAW := zq_t (List.mem_append_right _ (List.mem_append_right _ (List.mem_append_right _ (List.mem_of_getElem? (l := tables_1_4) (i := 12) rfl))))
set_option maxRecDepth 20000 in
theorem q563 : Cond.selects "ClayTrapsModel" yX3_bringBack yX3_bringBack ∈ zAW := zq_s (List.mem_of_getElem? (l := k2_sels lw_privs) (i := 22) rfl)
set_option maxRecDepth 20000 in
theorem q564 : Cond.code yX3_turnsUntilMiss prog_5_method_45_code 2 (some .int) ∈ zAW := zq_t (List.mem_append_right _ (List.mem_append_right _ (List.mem_append_right _ (List.mem_of_getElem? (l := tables_1_4) (i := 17) rfl))))
set_option maxRecDepth 20000 in
theorem q565 : Cond.methodLink "ClayTrapsLaw" 158 yX3_turnsUntilMiss ∈ zAW := zq_t (List.mem_append_right _ (List.mem_append_right _ (List.mem_append_right _ (List.mem_of_getElem? (l := tables_1_4) (i := 14) rfl))))
set_option maxRecDepth 20000 in
theorem q566 : Cond.instanceMethod yX3_turnsUntilMiss ∈ zAW := zq_t (List.mem_append_right _ (List.mem_append_right _ (List.mem_append_right _ (List.mem_of_getElem? (l := tables_1_4) (i := 15) rfl))))
set_option maxRecDepth 20000 in
theorem q567 : Cond.selects "ClayTrapsModel" yX3_turnsUntilMiss yX3_turnsUntilMiss ∈ zAW := zq_t (List.mem_append_right _ (List.mem_append_right _ (List.mem_append_right _ (List.mem_of_getElem? (l := tables_1_4) (i := 16) rfl))))
set_option maxRecDepth 20000 in
theorem q568 : Cond.code yX3_untilMiss prog_5_method_44_code 4 (some .int) ∈ zAW := zq_t (List.mem_append_right _ (List.mem_append_right _ (List.mem_append_right _ (List.mem_of_getElem? (l := tables_1_4) (i := 21) rfl))))
set_option maxRecDepth 20000 in
theorem q569 : Cond.methodLink "ClayTrapsModel" 126 yX3_untilMiss ∈ zAW := zq_t (List.mem_append_right _ (List.mem_append_right _ (List.mem_append_right _ (List.mem_of_getElem? (l := tables_1_4) (i := 18) rfl))))
set_option maxRecDepth 20000 in
theorem q570 : Cond.instanceMethod yX3_untilMiss ∈ zAW := zq_t (List.mem_append_right _ (List.mem_append_right _ (List.mem_append_right _ (List.mem_of_getElem? (l := tables_1_4) (i := 20) rfl))))
set_option maxRecDepth 20000 in
theorem q571 : Cond.selects "ClayTrapsModel" yX3_untilMiss yX3_untilMiss ∈ zAW := zq_s (List.mem_of_getElem? (l := k2_sels lw_privs) (i := 23) rfl)
set_option maxRecDepth 20000 in
theorem q572 : Cond.code yX3_leaderIn prog_5_method_47_code 2 (some .int) ∈ zAW := zq_t (List.mem_append_right _ (List.mem_append_right _ (List.mem_append_right _ (List.mem_of_getElem? (l := tables_1_4) (i := 25) rfl))))
set_option maxRecDepth 20000 in
theorem q573 : Cond.methodLink "ClayTrapsLaw" 161 yX3_leaderIn ∈ zAW := zq_t (List.mem_append_right _ (List.mem_append_right _ (List.mem_append_right _ (List.mem_of_getElem? (l := tables_1_4) (i := 22) rfl))))
set_option maxRecDepth 20000 in
theorem q574 : Cond.instanceMethod yX3_leaderIn ∈ zAW := zq_t (List.mem_append_right _ (List.mem_append_right _ (List.mem_append_right _ (List.mem_of_getElem? (l := tables_1_4) (i := 23) rfl))))
set_option maxRecDepth 20000 in
theorem q575 : Cond.selects "ClayTrapsModel" yX3_leaderIn yX3_leaderIn ∈ zAW := zq_t (List.mem_append_right _ (List.mem_append_right _ (List.mem_append_right _ (List.mem_of_getElem? (l := tables_1_4) (i := 24) rfl))))
set_option maxRecDepth 20000 in
theorem q576 : Cond.code yX3_firstIn prog_5_method_46_code 3 (some .int) ∈ zAW := zq_t (List.mem_append_right _ (List.mem_append_right _ (List.mem_append_right _ (List.mem_of_getElem? (l := tables_1_4) (i := 29) rfl))))
set_option maxRecDepth 20000 in
theorem q577 : Cond.methodLink "ClayTrapsModel" 129 yX3_firstIn ∈ zAW := zq_t (List.mem_append_right _ (List.mem_append_right _ (List.mem_append_right _ (List.mem_of_getElem? (l := tables_1_4) (i := 26) rfl))))
set_option maxRecDepth 20000 in
theorem q578 : Cond.instanceMethod yX3_firstIn ∈ zAW := zq_t (List.mem_append_right _ (List.mem_append_right _ (List.mem_append_right _ (List.mem_of_getElem? (l := tables_1_4) (i := 28) rfl))))
set_option maxRecDepth 20000 in
theorem q579 : Cond.selects "ClayTrapsModel" yX3_firstIn yX3_firstIn ∈ zAW := zq_s (List.mem_of_getElem? (l := k2_sels lw_privs) (i := 24) rfl)
set_option maxRecDepth 20000 in
theorem q580 : Cond.code yX3_wouldWin prog_5_method_49_code 1 (some .int) ∈ zAW := zq_t (List.mem_append_right _ (List.mem_append_right _ (List.mem_append_right _ (List.mem_of_getElem? (l := tables_1_4) (i := 33) rfl))))
set_option maxRecDepth 20000 in
theorem q581 : Cond.methodLink "ClayTrapsLaw" 165 yX3_wouldWin ∈ zAW := zq_t (List.mem_append_right _ (List.mem_append_right _ (List.mem_append_right _ (List.mem_of_getElem? (l := tables_1_4) (i := 30) rfl))))
set_option maxRecDepth 20000 in
theorem q582 : Cond.instanceMethod yX3_wouldWin ∈ zAW := zq_t (List.mem_append_right _ (List.mem_append_right _ (List.mem_append_right _ (List.mem_of_getElem? (l := tables_1_4) (i := 31) rfl))))
set_option maxRecDepth 20000 in
theorem q583 : Cond.selects "ClayTrapsModel" yX3_wouldWin yX3_wouldWin ∈ zAW := zq_t (List.mem_append_right _ (List.mem_append_right _ (List.mem_append_right _ (List.mem_of_getElem? (l := tables_1_4) (i := 32) rfl))))
set_option maxRecDepth 20000 in
theorem q584 : Cond.code yX3_winner prog_5_method_48_code 2 (some .int) ∈ zAW := zq_t (List.mem_append_right _ (List.mem_append_right _ (List.mem_append_right _ (List.mem_of_getElem? (l := tables_1_4) (i := 37) rfl))))
set_option maxRecDepth 20000 in
theorem q585 : Cond.methodLink "ClayTrapsModel" 132 yX3_winner ∈ zAW := zq_t (List.mem_append_right _ (List.mem_append_right _ (List.mem_append_right _ (List.mem_of_getElem? (l := tables_1_4) (i := 34) rfl))))
set_option maxRecDepth 20000 in
theorem q586 : Cond.instanceMethod yX3_winner ∈ zAW := zq_t (List.mem_append_right _ (List.mem_append_right _ (List.mem_append_right _ (List.mem_of_getElem? (l := tables_1_4) (i := 36) rfl))))
set_option maxRecDepth 20000 in
theorem q587 : Cond.selects "ClayTrapsModel" yX3_winner yX3_winner ∈ zAW := zq_s (List.mem_of_getElem? (l := k2_sels lw_privs) (i := 25) rfl)
set_option maxRecDepth 20000 in
theorem q588 : Cond.code yX3_bestRest prog_5_method_51_code 2 (some .int) ∈ zAW := zq_t (List.mem_append_right _ (List.mem_append_right _ (List.mem_append_right _ (List.mem_of_getElem? (l := tables_1_4) (i := 41) rfl))))
set_option maxRecDepth 20000 in
theorem q589 : Cond.methodLink "ClayTrapsLaw" 168 yX3_bestRest ∈ zAW := zq_t (List.mem_append_right _ (List.mem_append_right _ (List.mem_append_right _ (List.mem_of_getElem? (l := tables_1_4) (i := 38) rfl))))
set_option maxRecDepth 20000 in
theorem q590 : Cond.instanceMethod yX3_bestRest ∈ zAW := zq_t (List.mem_append_right _ (List.mem_append_right _ (List.mem_append_right _ (List.mem_of_getElem? (l := tables_1_4) (i := 39) rfl))))
set_option maxRecDepth 20000 in
theorem q591 : Cond.selects "ClayTrapsModel" yX3_bestRest yX3_bestRest ∈ zAW := zq_t (List.mem_append_right _ (List.mem_append_right _ (List.mem_append_right _ (List.mem_of_getElem? (l := tables_1_4) (i := 40) rfl))))
set_option maxRecDepth 20000 in
theorem q592 : Cond.code yX3_restFor prog_5_method_50_code 6 (some .int) ∈ zAW := zq_t (List.mem_append_right _ (List.mem_append_right _ (List.mem_append_right _ (List.mem_of_getElem? (l := tables_1_4) (i := 45) rfl))))
set_option maxRecDepth 20000 in
theorem q593 : Cond.methodLink "ClayTrapsModel" 135 yX3_restFor ∈ zAW := zq_t (List.mem_append_right _ (List.mem_append_right _ (List.mem_append_right _ (List.mem_of_getElem? (l := tables_1_4) (i := 42) rfl))))
set_option maxRecDepth 20000 in
theorem q594 : Cond.instanceMethod yX3_restFor ∈ zAW := zq_t (List.mem_append_right _ (List.mem_append_right _ (List.mem_append_right _ (List.mem_of_getElem? (l := tables_1_4) (i := 44) rfl))))
set_option maxRecDepth 20000 in
theorem q595 : Cond.selects "ClayTrapsModel" yX3_restFor yX3_restFor ∈ zAW := zq_s (List.mem_of_getElem? (l := k2_sels lw_privs) (i := 26) rfl)
set_option maxRecDepth 20000 in
theorem q596 : Cond.code yX3_swingWanted prog_5_method_52_code 4 (some .int) ∈ zAW := zq_t (List.mem_append_right _ (List.mem_append_right _ (List.mem_append_right _ (List.mem_of_getElem? (l := tables_1_4) (i := 49) rfl))))
set_option maxRecDepth 20000 in
theorem q597 : Cond.methodLink "ClayTrapsLaw" 171 yX3_swingWanted ∈ zAW := zq_t (List.mem_append_right _ (List.mem_append_right _ (List.mem_append_right _ (List.mem_of_getElem? (l := tables_1_4) (i := 46) rfl))))
set_option maxRecDepth 20000 in
theorem q598 : Cond.instanceMethod yX3_swingWanted ∈ zAW := zq_t (List.mem_append_right _ (List.mem_append_right _ (List.mem_append_right _ (List.mem_of_getElem? (l := tables_1_4) (i := 47) rfl))))
set_option maxRecDepth 20000 in
theorem q599 : Cond.selects "ClayTrapsModel" yX3_swingWanted yX3_swingWanted ∈ zAW := zq_t (List.mem_append_right _ (List.mem_append_right _ (List.mem_append_right _ (List.mem_of_getElem? (l := tables_1_4) (i := 48) rfl))))
set_option maxRecDepth 20000 in
theorem q600 : Cond.code yX3_meanScore prog_5_method_53_code 3 (some .double) ∈ zAW := zq_t (List.mem_append_right _ (List.mem_append_right _ (List.mem_append_right _ (List.mem_of_getElem? (l := tables_1_4) (i := 53) rfl))))
set_option maxRecDepth 20000 in
theorem q601 : Cond.methodLink "ClayTrapsLaw" 176 yX3_meanScore ∈ zAW := zq_t (List.mem_append_right _ (List.mem_append_right _ (List.mem_append_right _ (List.mem_of_getElem? (l := tables_1_4) (i := 50) rfl))))
set_option maxRecDepth 20000 in
theorem q602 : Cond.instanceMethod yX3_meanScore ∈ zAW := zq_t (List.mem_append_right _ (List.mem_append_right _ (List.mem_append_right _ (List.mem_of_getElem? (l := tables_1_4) (i := 51) rfl))))
set_option maxRecDepth 20000 in
theorem q603 : Cond.selects "ClayTrapsModel" yX3_meanScore yX3_meanScore ∈ zAW := zq_t (List.mem_append_right _ (List.mem_append_right _ (List.mem_append_right _ (List.mem_of_getElem? (l := tables_1_4) (i := 52) rfl))))
set_option maxRecDepth 20000 in
theorem q604 : Cond.code yX3_digest prog_5_method_54_code 10 (some .long) ∈ zAW := zq_t (List.mem_append_right _ (List.mem_append_right _ (List.mem_append_right _ (List.mem_of_getElem? (l := tables_1_4) (i := 57) rfl))))
set_option maxRecDepth 20000 in
theorem q605 : Cond.methodLink "ClayTrapsLaw" 181 yX3_digest ∈ zAW := zq_t (List.mem_append_right _ (List.mem_append_right _ (List.mem_append_right _ (List.mem_of_getElem? (l := tables_1_4) (i := 54) rfl))))
set_option maxRecDepth 20000 in
theorem q606 : Cond.instanceMethod yX3_digest ∈ zAW := zq_t (List.mem_append_right _ (List.mem_append_right _ (List.mem_append_right _ (List.mem_of_getElem? (l := tables_1_4) (i := 55) rfl))))
set_option maxRecDepth 20000 in
theorem q607 : Cond.selects "ClayTrapsModel" yX3_digest yX3_digest ∈ zAW := zq_t (List.mem_append_right _ (List.mem_append_right _ (List.mem_append_right _ (List.mem_of_getElem? (l := tables_1_4) (i := 56) rfl))))
set_option maxRecDepth 20000 in
theorem q608 : Cond.initialized "java/lang/Throwable" ∈ zAW := zq_t (List.mem_append_left _ (List.mem_of_getElem? (l := tables_1_1) (i := 5) rfl))
set_option maxRecDepth 20000 in
theorem q609 : Cond.initialized "java/lang/Exception" ∈ zAW := zq_t (List.mem_append_left _ (List.mem_of_getElem? (l := tables_1_1) (i := 6) rfl))
set_option maxRecDepth 20000 in
theorem q610 : Cond.initialized "java/lang/RuntimeException" ∈ zAW := zq_t (List.mem_append_left _ (List.mem_of_getElem? (l := tables_1_1) (i := 7) rfl))
set_option maxRecDepth 20000 in
theorem q611 : Cond.initialized "java/lang/IllegalArgumentException" ∈ zAW := zq_t (List.mem_append_left _ (List.mem_of_getElem? (l := tables_1_1) (i := 8) rfl))
set_option maxRecDepth 20000 in
theorem q612 : Cond.initialized "java/lang/IllegalStateException" ∈ zAW := zq_t (List.mem_append_left _ (List.mem_of_getElem? (l := tables_1_1) (i := 9) rfl))
set_option maxRecDepth 20000 in
theorem q613 : Cond.initialized "java/lang/IndexOutOfBoundsException" ∈ zAW := zq_t (List.mem_append_left _ (List.mem_of_getElem? (l := tables_1_1) (i := 10) rfl))
set_option maxRecDepth 20000 in
theorem q614 : Cond.initialized "java/lang/System" ∈ zAW := zq_t (List.mem_append_left _ (List.mem_of_getElem? (l := tables_1_1) (i := 13) rfl))
set_option maxRecDepth 20000 in
theorem q615 : Cond.classLink "ClayTrapsLaw" 8 "ClayTraps" ∈ zAW := zq_t (List.mem_append_left _ (List.mem_of_getElem? (l := tables_1_1) (i := 14) rfl))
set_option maxRecDepth 20000 in
theorem q616 : Cond.instantiable "ClayTraps" 4 ∈ zAW := zq_t (List.mem_append_left _ (List.mem_of_getElem? (l := tables_1_1) (i := 15) rfl))
set_option maxRecDepth 20000 in
theorem q617 : Cond.classLink "ClayTraps" 7 "ClayTraps$Traps" ∈ zAW := zq_t (List.mem_append_left _ (List.mem_of_getElem? (l := tables_1_1) (i := 22) rfl))
set_option maxRecDepth 20000 in
theorem q618 : Cond.instantiable "ClayTraps$Traps" 2 ∈ zAW := zq_t (List.mem_append_left _ (List.mem_of_getElem? (l := tables_1_1) (i := 23) rfl))
set_option maxRecDepth 20000 in
theorem q619 : Cond.arrayClass .int ∈ zAW := zq_t (List.mem_append_left _ (List.mem_of_getElem? (l := tables_1_1) (i := 37) rfl))
set_option maxRecDepth 20000 in
theorem q620 : Cond.classLink "ClayTraps" 16 "ClayTraps$Squad" ∈ zAW := zq_t (List.mem_append_left _ (List.mem_of_getElem? (l := tables_1_1) (i := 38) rfl))
set_option maxRecDepth 20000 in
theorem q621 : Cond.instantiable "ClayTraps$Squad" 9 ∈ zAW := zq_t (List.mem_append_left _ (List.mem_of_getElem? (l := tables_1_1) (i := 39) rfl))
set_option maxRecDepth 20000 in
theorem q622 : Cond.arrayClass .boolean ∈ zAW := zq_t (List.mem_append_left _ (List.mem_of_getElem? (l := tables_1_1) (i := 78) rfl))
set_option maxRecDepth 20000 in
theorem q623 : Cond.classLink "ClayTraps" 26 "java/lang/IllegalArgumentException" ∈ zAW := zq_t (List.mem_append_left _ (List.mem_of_getElem? (l := tables_1_1) (i := 178) rfl))
set_option maxRecDepth 20000 in
theorem q624 : Cond.instantiable "java/lang/IllegalArgumentException" 6 ∈ zAW := zq_t (List.mem_append_left _ (List.mem_of_getElem? (l := tables_1_1) (i := 179) rfl))
set_option maxRecDepth 20000 in
theorem q625 : Cond.instantiable "java/lang/Throwable" 6 ∈ zAW := zq_t (List.mem_append_left _ (List.mem_of_getElem? (l := tables_1_1) (i := 217) rfl))
set_option maxRecDepth 20000 in
theorem q626 : Cond.arrayClass .byte ∈ zAW := zq_t (List.mem_append_right _ (List.mem_append_left _ (List.mem_of_getElem? (l := tables_1_2) (i := 5) rfl)))
set_option maxRecDepth 20000 in
theorem q627 : Cond.classLink "ClayTraps" 85 "java/lang/IndexOutOfBoundsException" ∈ zAW := zq_t (List.mem_append_right _ (List.mem_append_left _ (List.mem_of_getElem? (l := tables_1_2) (i := 57) rfl)))
set_option maxRecDepth 20000 in
theorem q628 : Cond.instantiable "java/lang/IndexOutOfBoundsException" 6 ∈ zAW := zq_t (List.mem_append_right _ (List.mem_append_left _ (List.mem_of_getElem? (l := tables_1_2) (i := 58) rfl)))
set_option maxRecDepth 20000 in
theorem q629 : Cond.classLink "ClayTrapsLaw" 13 "java/lang/IllegalArgumentException" ∈ zAW := zq_t (List.mem_append_right _ (List.mem_append_left _ (List.mem_of_getElem? (l := tables_1_2) (i := 148) rfl)))
set_option maxRecDepth 20000 in
theorem q630 : Cond.classLink "ClayTrapsLaw" 15 "java/lang/IllegalStateException" ∈ zAW := zq_t (List.mem_append_right _ (List.mem_append_left _ (List.mem_of_getElem? (l := tables_1_2) (i := 149) rfl)))
set_option maxRecDepth 20000 in
theorem q631 : Cond.classLink "ClayTraps" 39 "java/lang/IllegalStateException" ∈ zAW := zq_t (List.mem_append_right _ (List.mem_append_left _ (List.mem_of_getElem? (l := tables_1_2) (i := 156) rfl)))
set_option maxRecDepth 20000 in
theorem q632 : Cond.instantiable "java/lang/IllegalStateException" 6 ∈ zAW := zq_t (List.mem_append_right _ (List.mem_append_left _ (List.mem_of_getElem? (l := tables_1_2) (i := 157) rfl)))
set_option maxRecDepth 20000 in
theorem q633 : Cond.classLink "ClayTrapsLaw" 21 "java/lang/IndexOutOfBoundsException" ∈ zAW := zq_t (List.mem_append_right _ (List.mem_append_left _ (List.mem_of_getElem? (l := tables_1_2) (i := 179) rfl)))
set_option maxRecDepth 20000 in
theorem q634 : Cond.classLink "ClayTrapsLaw" 80 "ClayTrapsModel" ∈ zAW := zq_t (List.mem_append_right _ (List.mem_append_right _ (List.mem_append_left _ (List.mem_of_getElem? (l := tables_1_3) (i := 41) rfl))))
set_option maxRecDepth 20000 in
theorem q635 : Cond.instantiable "ClayTrapsModel" 8 ∈ zAW := zq_t (List.mem_append_right _ (List.mem_append_right _ (List.mem_append_left _ (List.mem_of_getElem? (l := tables_1_3) (i := 42) rfl))))
set_option maxRecDepth 20000 in
theorem q636 : Cond.arrayClass .long ∈ zAW := zq_t (List.mem_append_right _ (List.mem_append_right _ (List.mem_append_right _ (List.mem_of_getElem? (l := tables_1_4) (i := 60) rfl))))
set_option maxRecDepth 20000 in
theorem q637 : Cond.static yJ9_abs_0f7a4 ∈ zAW := zq_t (List.mem_append_right _ (List.mem_append_left _ (List.mem_of_getElem? (l := tables_1_2) (i := 36) rfl)))
set_option maxRecDepth 20000 in
theorem q638 : Cond.static yJ9_max_7cf53 ∈ zAW := zq_t (List.mem_append_right _ (List.mem_append_left _ (List.mem_of_getElem? (l := tables_1_2) (i := 48) rfl)))
set_option maxRecDepth 20000 in
theorem q639 : Cond.code yJ9_abs_0f7a4 prog_11_method_59_code 1 (some .int) ∈ zAW := zq_t (List.mem_append_right _ (List.mem_append_left _ (List.mem_of_getElem? (l := tables_1_2) (i := 37) rfl)))
set_option maxRecDepth 20000 in
theorem q640 : Cond.code yJ9_max_7cf53 prog_11_method_65_code 2 (some .int) ∈ zAW := zq_t (List.mem_append_right _ (List.mem_append_left _ (List.mem_of_getElem? (l := tables_1_2) (i := 49) rfl)))
set_option maxRecDepth 20000 in
theorem q641 : Cond.instanceMethod (⟨"java/lang/Object", "<init>", "()V"⟩ : MethodName) ∈ zAW := zq_t (List.mem_append_left _ (List.mem_of_getElem? (l := tables_1_1) (i := 20) rfl))
set_option maxRecDepth 20000 in
theorem q642 : Cond.static (⟨"java/lang/System", "arraycopy", "(Ljava/lang/Object;ILjava/lang/Object;II)V"⟩ : MethodName) ∈ zAW := zq_t (List.mem_append_right _ (List.mem_append_right _ (List.mem_append_right _ (List.mem_of_getElem? (l := tables_1_4) (i := 8) rfl))))
set_option maxRecDepth 20000 in
theorem q643 : Cond.native (⟨"java/lang/System", "arraycopy", "(Ljava/lang/Object;ILjava/lang/Object;II)V"⟩ : MethodName) ∈ zAW := zq_t (List.mem_append_right _ (List.mem_append_right _ (List.mem_append_right _ (List.mem_of_getElem? (l := tables_1_4) (i := 9) rfl))))
set_option maxRecDepth 20000 in
theorem q644 : Cond.code (⟨"java/lang/Object", "<init>", "()V"⟩ : MethodName) object_method_1_code 1 none ∈ zAW := zq_t (List.mem_append_left _ (List.mem_of_getElem? (l := tables_1_1) (i := 21) rfl))
set_option maxRecDepth 20000 in
theorem q645 : Cond.constantLong "ClayTraps" 152 (2137 : Int64) ∈ zAW := zq_t (List.mem_append_left _ (List.mem_of_getElem? (l := tables_1_1) (i := 161) rfl))
set_option maxRecDepth 20000 in
theorem q646 : Cond.constantLong "ClayTraps" 220 (31 : Int64) ∈ zAW := zq_t (List.mem_append_left _ (List.mem_of_getElem? (l := tables_1_1) (i := 166) rfl))
set_option maxRecDepth 20000 in
theorem q647 : Cond.constant "java/lang/Integer" 265 (1431655765 : Int32) ∈ zAW := zq_t (List.mem_append_right _ (List.mem_append_right _ (List.mem_append_left _ (List.mem_of_getElem? (l := tables_1_3) (i := 160) rfl))))
set_option maxRecDepth 20000 in
theorem q648 : Cond.constant "java/lang/Integer" 266 (858993459 : Int32) ∈ zAW := zq_t (List.mem_append_right _ (List.mem_append_right _ (List.mem_append_left _ (List.mem_of_getElem? (l := tables_1_3) (i := 161) rfl))))
set_option maxRecDepth 20000 in
theorem q649 : Cond.constant "java/lang/Integer" 267 (252645135 : Int32) ∈ zAW := zq_t (List.mem_append_right _ (List.mem_append_right _ (List.mem_append_left _ (List.mem_of_getElem? (l := tables_1_3) (i := 162) rfl))))
set_option maxRecDepth 20000 in
theorem q650 : Cond.constant "java/lang/Integer" 264 (65536 : Int32) ∈ zAW := zq_t (List.mem_append_right _ (List.mem_append_right _ (List.mem_append_left _ (List.mem_of_getElem? (l := tables_1_3) (i := 166) rfl))))
set_option maxRecDepth 20000 in
theorem q651 : Cond.constantLong "ClayTrapsModel" 138 (2137 : Int64) ∈ zAW := zq_t (List.mem_append_right _ (List.mem_append_right _ (List.mem_append_right _ (List.mem_of_getElem? (l := tables_1_4) (i := 58) rfl))))
set_option maxRecDepth 20000 in
theorem q652 : Cond.constantLong "ClayTrapsModel" 140 (31 : Int64) ∈ zAW := zq_t (List.mem_append_right _ (List.mem_append_right _ (List.mem_append_right _ (List.mem_of_getElem? (l := tables_1_4) (i := 59) rfl))))
theorem inX0 : ∀ w ∈ u_ws RX0 TX0 9, w ∈ zAW := by
  intro w hw
  obtain ⟨k, hk, rfl⟩ := List.mem_map.mp hw
  match k, List.mem_range.mp hk with
  | 0, _ => exact q0
  | 1, _ => exact q1
  | 2, _ => exact q2
  | 3, _ => exact q3
  | 4, _ => exact q4
  | 5, _ => exact q5
  | 6, _ => exact q6
  | 7, _ => exact q7
  | 8, _ => exact q8
  | k + 9, h => exact absurd h (by omega)
theorem inX1 : ∀ w ∈ u_ws RX1 TX1 2, w ∈ zAW := by
  intro w hw
  obtain ⟨k, hk, rfl⟩ := List.mem_map.mp hw
  match k, List.mem_range.mp hk with
  | 0, _ => exact q9
  | 1, _ => exact q10
  | k + 2, h => exact absurd h (by omega)
theorem inX2 : ∀ w ∈ u_ws RX2 TX2 4, w ∈ zAW := by
  intro w hw
  obtain ⟨k, hk, rfl⟩ := List.mem_map.mp hw
  match k, List.mem_range.mp hk with
  | 0, _ => exact q11
  | 1, _ => exact q12
  | 2, _ => exact q13
  | 3, _ => exact q14
  | k + 4, h => exact absurd h (by omega)
theorem inX3 : ∀ w ∈ u_ws RX3 TX3 8, w ∈ zAW := by
  intro w hw
  obtain ⟨k, hk, rfl⟩ := List.mem_map.mp hw
  match k, List.mem_range.mp hk with
  | 0, _ => exact q15
  | 1, _ => exact q16
  | 2, _ => exact q17
  | 3, _ => exact q18
  | 4, _ => exact q19
  | 5, _ => exact q20
  | 6, _ => exact q21
  | 7, _ => exact q22
  | k + 8, h => exact absurd h (by omega)
theorem gf_X1_9 {p : Program} {l : Launch} {e : Env} {R : Room} {s : State} {m : MethodId} {args : Array Value} {below : List Frame} {meth : Method} {c : Code} {cc : ByteArray} {nL : Nat} {G : va_G} {tys : List (ClassId × FieldType)} {A : Nat → Prop} {cells slots : Nat} {Q : State → Prop} {ws : va_W} {lv : List (Nat × Value)} {pc n : Nat} {rest : List Value} (hC : Cx p s m args c cc nL RX1 G tys A) (q0 : Nat) {a : Nat} {fs : List Value} {v : Value} (he : ws[q0]? = some (a, .inr (1, fs))) (hv : fs[0]? = some v) (hdg : decode cc pc = .ok (.getfield 9, 3)) (hn : pc + 3 = n) (k : ZZ p l e R s m args below meth c G A nL cells slots Q ws lv n (v :: rest)) : ZZ p l e R s m args below meth c G A nL cells slots Q ws lv pc (.ref a :: rest) := z_get hC 0 inX1 rfl (by decide) q23 q0 he hv hdg hn k
theorem gf_X2_56 {p : Program} {l : Launch} {e : Env} {R : Room} {s : State} {m : MethodId} {args : Array Value} {below : List Frame} {meth : Method} {c : Code} {cc : ByteArray} {nL : Nat} {G : va_G} {tys : List (ClassId × FieldType)} {A : Nat → Prop} {cells slots : Nat} {Q : State → Prop} {ws : va_W} {lv : List (Nat × Value)} {pc n : Nat} {rest : List Value} (hC : Cx p s m args c cc nL RX2 G tys A) (q0 : Nat) {a : Nat} {fs : List Value} {v : Value} (he : ws[q0]? = some (a, .inr (1, fs))) (hv : fs[0]? = some v) (hdg : decode cc pc = .ok (.getfield 56, 3)) (hn : pc + 3 = n) (k : ZZ p l e R s m args below meth c G A nL cells slots Q ws lv n (v :: rest)) : ZZ p l e R s m args below meth c G A nL cells slots Q ws lv pc (.ref a :: rest) := z_get hC 0 inX1 rfl (by decide) q24 q0 he hv hdg hn k
theorem gf_X1_15 {p : Program} {l : Launch} {e : Env} {R : Room} {s : State} {m : MethodId} {args : Array Value} {below : List Frame} {meth : Method} {c : Code} {cc : ByteArray} {nL : Nat} {G : va_G} {tys : List (ClassId × FieldType)} {A : Nat → Prop} {cells slots : Nat} {Q : State → Prop} {ws : va_W} {lv : List (Nat × Value)} {pc n : Nat} {rest : List Value} (hC : Cx p s m args c cc nL RX1 G tys A) (q0 : Nat) {a : Nat} {fs : List Value} {v : Value} (he : ws[q0]? = some (a, .inr (1, fs))) (hv : fs[1]? = some v) (hdg : decode cc pc = .ok (.getfield 15, 3)) (hn : pc + 3 = n) (k : ZZ p l e R s m args below meth c G A nL cells slots Q ws lv n (v :: rest)) : ZZ p l e R s m args below meth c G A nL cells slots Q ws lv pc (.ref a :: rest) := z_get hC 1 inX1 rfl (by decide) q25 q0 he hv hdg hn k
theorem gf_X2_60 {p : Program} {l : Launch} {e : Env} {R : Room} {s : State} {m : MethodId} {args : Array Value} {below : List Frame} {meth : Method} {c : Code} {cc : ByteArray} {nL : Nat} {G : va_G} {tys : List (ClassId × FieldType)} {A : Nat → Prop} {cells slots : Nat} {Q : State → Prop} {ws : va_W} {lv : List (Nat × Value)} {pc n : Nat} {rest : List Value} (hC : Cx p s m args c cc nL RX2 G tys A) (q0 : Nat) {a : Nat} {fs : List Value} {v : Value} (he : ws[q0]? = some (a, .inr (1, fs))) (hv : fs[1]? = some v) (hdg : decode cc pc = .ok (.getfield 60, 3)) (hn : pc + 3 = n) (k : ZZ p l e R s m args below meth c G A nL cells slots Q ws lv n (v :: rest)) : ZZ p l e R s m args below meth c G A nL cells slots Q ws lv pc (.ref a :: rest) := z_get hC 1 inX1 rfl (by decide) q26 q0 he hv hdg hn k
theorem gf_X0_9 {p : Program} {l : Launch} {e : Env} {R : Room} {s : State} {m : MethodId} {args : Array Value} {below : List Frame} {meth : Method} {c : Code} {cc : ByteArray} {nL : Nat} {G : va_G} {tys : List (ClassId × FieldType)} {A : Nat → Prop} {cells slots : Nat} {Q : State → Prop} {ws : va_W} {lv : List (Nat × Value)} {pc n : Nat} {rest : List Value} (hC : Cx p s m args c cc nL RX0 G tys A) (q0 : Nat) {a : Nat} {fs : List Value} {v : Value} (he : ws[q0]? = some (a, .inr (0, fs))) (hv : fs[0]? = some v) (hdg : decode cc pc = .ok (.getfield 9, 3)) (hn : pc + 3 = n) (k : ZZ p l e R s m args below meth c G A nL cells slots Q ws lv n (v :: rest)) : ZZ p l e R s m args below meth c G A nL cells slots Q ws lv pc (.ref a :: rest) := z_get hC 0 inX0 rfl (by decide) q27 q0 he hv hdg hn k
theorem gf_X2_135 {p : Program} {l : Launch} {e : Env} {R : Room} {s : State} {m : MethodId} {args : Array Value} {below : List Frame} {meth : Method} {c : Code} {cc : ByteArray} {nL : Nat} {G : va_G} {tys : List (ClassId × FieldType)} {A : Nat → Prop} {cells slots : Nat} {Q : State → Prop} {ws : va_W} {lv : List (Nat × Value)} {pc n : Nat} {rest : List Value} (hC : Cx p s m args c cc nL RX2 G tys A) (q0 : Nat) {a : Nat} {fs : List Value} {v : Value} (he : ws[q0]? = some (a, .inr (0, fs))) (hv : fs[0]? = some v) (hdg : decode cc pc = .ok (.getfield 135, 3)) (hn : pc + 3 = n) (k : ZZ p l e R s m args below meth c G A nL cells slots Q ws lv n (v :: rest)) : ZZ p l e R s m args below meth c G A nL cells slots Q ws lv pc (.ref a :: rest) := z_get hC 0 inX0 rfl (by decide) q28 q0 he hv hdg hn k
theorem gf_X0_15 {p : Program} {l : Launch} {e : Env} {R : Room} {s : State} {m : MethodId} {args : Array Value} {below : List Frame} {meth : Method} {c : Code} {cc : ByteArray} {nL : Nat} {G : va_G} {tys : List (ClassId × FieldType)} {A : Nat → Prop} {cells slots : Nat} {Q : State → Prop} {ws : va_W} {lv : List (Nat × Value)} {pc n : Nat} {rest : List Value} (hC : Cx p s m args c cc nL RX0 G tys A) (q0 : Nat) {a : Nat} {fs : List Value} {v : Value} (he : ws[q0]? = some (a, .inr (0, fs))) (hv : fs[1]? = some v) (hdg : decode cc pc = .ok (.getfield 15, 3)) (hn : pc + 3 = n) (k : ZZ p l e R s m args below meth c G A nL cells slots Q ws lv n (v :: rest)) : ZZ p l e R s m args below meth c G A nL cells slots Q ws lv pc (.ref a :: rest) := z_get hC 1 inX0 rfl (by decide) q29 q0 he hv hdg hn k
theorem gf_X0_18 {p : Program} {l : Launch} {e : Env} {R : Room} {s : State} {m : MethodId} {args : Array Value} {below : List Frame} {meth : Method} {c : Code} {cc : ByteArray} {nL : Nat} {G : va_G} {tys : List (ClassId × FieldType)} {A : Nat → Prop} {cells slots : Nat} {Q : State → Prop} {ws : va_W} {lv : List (Nat × Value)} {pc n : Nat} {rest : List Value} (hC : Cx p s m args c cc nL RX0 G tys A) (q0 : Nat) {a : Nat} {fs : List Value} {v : Value} (he : ws[q0]? = some (a, .inr (0, fs))) (hv : fs[2]? = some v) (hdg : decode cc pc = .ok (.getfield 18, 3)) (hn : pc + 3 = n) (k : ZZ p l e R s m args below meth c G A nL cells slots Q ws lv n (v :: rest)) : ZZ p l e R s m args below meth c G A nL cells slots Q ws lv pc (.ref a :: rest) := z_get hC 2 inX0 rfl (by decide) q30 q0 he hv hdg hn k
theorem gf_X2_66 {p : Program} {l : Launch} {e : Env} {R : Room} {s : State} {m : MethodId} {args : Array Value} {below : List Frame} {meth : Method} {c : Code} {cc : ByteArray} {nL : Nat} {G : va_G} {tys : List (ClassId × FieldType)} {A : Nat → Prop} {cells slots : Nat} {Q : State → Prop} {ws : va_W} {lv : List (Nat × Value)} {pc n : Nat} {rest : List Value} (hC : Cx p s m args c cc nL RX2 G tys A) (q0 : Nat) {a : Nat} {fs : List Value} {v : Value} (he : ws[q0]? = some (a, .inr (0, fs))) (hv : fs[2]? = some v) (hdg : decode cc pc = .ok (.getfield 66, 3)) (hn : pc + 3 = n) (k : ZZ p l e R s m args below meth c G A nL cells slots Q ws lv n (v :: rest)) : ZZ p l e R s m args below meth c G A nL cells slots Q ws lv pc (.ref a :: rest) := z_get hC 2 inX0 rfl (by decide) q31 q0 he hv hdg hn k
theorem gf_X0_21 {p : Program} {l : Launch} {e : Env} {R : Room} {s : State} {m : MethodId} {args : Array Value} {below : List Frame} {meth : Method} {c : Code} {cc : ByteArray} {nL : Nat} {G : va_G} {tys : List (ClassId × FieldType)} {A : Nat → Prop} {cells slots : Nat} {Q : State → Prop} {ws : va_W} {lv : List (Nat × Value)} {pc n : Nat} {rest : List Value} (hC : Cx p s m args c cc nL RX0 G tys A) (q0 : Nat) {a : Nat} {fs : List Value} {v : Value} (he : ws[q0]? = some (a, .inr (0, fs))) (hv : fs[3]? = some v) (hdg : decode cc pc = .ok (.getfield 21, 3)) (hn : pc + 3 = n) (k : ZZ p l e R s m args below meth c G A nL cells slots Q ws lv n (v :: rest)) : ZZ p l e R s m args below meth c G A nL cells slots Q ws lv pc (.ref a :: rest) := z_get hC 3 inX0 rfl (by decide) q32 q0 he hv hdg hn k
theorem gf_X2_103 {p : Program} {l : Launch} {e : Env} {R : Room} {s : State} {m : MethodId} {args : Array Value} {below : List Frame} {meth : Method} {c : Code} {cc : ByteArray} {nL : Nat} {G : va_G} {tys : List (ClassId × FieldType)} {A : Nat → Prop} {cells slots : Nat} {Q : State → Prop} {ws : va_W} {lv : List (Nat × Value)} {pc n : Nat} {rest : List Value} (hC : Cx p s m args c cc nL RX2 G tys A) (q0 : Nat) {a : Nat} {fs : List Value} {v : Value} (he : ws[q0]? = some (a, .inr (0, fs))) (hv : fs[3]? = some v) (hdg : decode cc pc = .ok (.getfield 103, 3)) (hn : pc + 3 = n) (k : ZZ p l e R s m args below meth c G A nL cells slots Q ws lv n (v :: rest)) : ZZ p l e R s m args below meth c G A nL cells slots Q ws lv pc (.ref a :: rest) := z_get hC 3 inX0 rfl (by decide) q33 q0 he hv hdg hn k
theorem gf_X0_24 {p : Program} {l : Launch} {e : Env} {R : Room} {s : State} {m : MethodId} {args : Array Value} {below : List Frame} {meth : Method} {c : Code} {cc : ByteArray} {nL : Nat} {G : va_G} {tys : List (ClassId × FieldType)} {A : Nat → Prop} {cells slots : Nat} {Q : State → Prop} {ws : va_W} {lv : List (Nat × Value)} {pc n : Nat} {rest : List Value} (hC : Cx p s m args c cc nL RX0 G tys A) (q0 : Nat) {a : Nat} {fs : List Value} {v : Value} (he : ws[q0]? = some (a, .inr (0, fs))) (hv : fs[4]? = some v) (hdg : decode cc pc = .ok (.getfield 24, 3)) (hn : pc + 3 = n) (k : ZZ p l e R s m args below meth c G A nL cells slots Q ws lv n (v :: rest)) : ZZ p l e R s m args below meth c G A nL cells slots Q ws lv pc (.ref a :: rest) := z_get hC 4 inX0 rfl (by decide) q34 q0 he hv hdg hn k
theorem gf_X2_106 {p : Program} {l : Launch} {e : Env} {R : Room} {s : State} {m : MethodId} {args : Array Value} {below : List Frame} {meth : Method} {c : Code} {cc : ByteArray} {nL : Nat} {G : va_G} {tys : List (ClassId × FieldType)} {A : Nat → Prop} {cells slots : Nat} {Q : State → Prop} {ws : va_W} {lv : List (Nat × Value)} {pc n : Nat} {rest : List Value} (hC : Cx p s m args c cc nL RX2 G tys A) (q0 : Nat) {a : Nat} {fs : List Value} {v : Value} (he : ws[q0]? = some (a, .inr (0, fs))) (hv : fs[4]? = some v) (hdg : decode cc pc = .ok (.getfield 106, 3)) (hn : pc + 3 = n) (k : ZZ p l e R s m args below meth c G A nL cells slots Q ws lv n (v :: rest)) : ZZ p l e R s m args below meth c G A nL cells slots Q ws lv pc (.ref a :: rest) := z_get hC 4 inX0 rfl (by decide) q35 q0 he hv hdg hn k
theorem gf_X0_27 {p : Program} {l : Launch} {e : Env} {R : Room} {s : State} {m : MethodId} {args : Array Value} {below : List Frame} {meth : Method} {c : Code} {cc : ByteArray} {nL : Nat} {G : va_G} {tys : List (ClassId × FieldType)} {A : Nat → Prop} {cells slots : Nat} {Q : State → Prop} {ws : va_W} {lv : List (Nat × Value)} {pc n : Nat} {rest : List Value} (hC : Cx p s m args c cc nL RX0 G tys A) (q0 : Nat) {a : Nat} {fs : List Value} {v : Value} (he : ws[q0]? = some (a, .inr (0, fs))) (hv : fs[5]? = some v) (hdg : decode cc pc = .ok (.getfield 27, 3)) (hn : pc + 3 = n) (k : ZZ p l e R s m args below meth c G A nL cells slots Q ws lv n (v :: rest)) : ZZ p l e R s m args below meth c G A nL cells slots Q ws lv pc (.ref a :: rest) := z_get hC 5 inX0 rfl (by decide) q36 q0 he hv hdg hn k
theorem gf_X2_109 {p : Program} {l : Launch} {e : Env} {R : Room} {s : State} {m : MethodId} {args : Array Value} {below : List Frame} {meth : Method} {c : Code} {cc : ByteArray} {nL : Nat} {G : va_G} {tys : List (ClassId × FieldType)} {A : Nat → Prop} {cells slots : Nat} {Q : State → Prop} {ws : va_W} {lv : List (Nat × Value)} {pc n : Nat} {rest : List Value} (hC : Cx p s m args c cc nL RX2 G tys A) (q0 : Nat) {a : Nat} {fs : List Value} {v : Value} (he : ws[q0]? = some (a, .inr (0, fs))) (hv : fs[5]? = some v) (hdg : decode cc pc = .ok (.getfield 109, 3)) (hn : pc + 3 = n) (k : ZZ p l e R s m args below meth c G A nL cells slots Q ws lv n (v :: rest)) : ZZ p l e R s m args below meth c G A nL cells slots Q ws lv pc (.ref a :: rest) := z_get hC 5 inX0 rfl (by decide) q37 q0 he hv hdg hn k
theorem gf_X0_30 {p : Program} {l : Launch} {e : Env} {R : Room} {s : State} {m : MethodId} {args : Array Value} {below : List Frame} {meth : Method} {c : Code} {cc : ByteArray} {nL : Nat} {G : va_G} {tys : List (ClassId × FieldType)} {A : Nat → Prop} {cells slots : Nat} {Q : State → Prop} {ws : va_W} {lv : List (Nat × Value)} {pc n : Nat} {rest : List Value} (hC : Cx p s m args c cc nL RX0 G tys A) (q0 : Nat) {a : Nat} {fs : List Value} {v : Value} (he : ws[q0]? = some (a, .inr (0, fs))) (hv : fs[6]? = some v) (hdg : decode cc pc = .ok (.getfield 30, 3)) (hn : pc + 3 = n) (k : ZZ p l e R s m args below meth c G A nL cells slots Q ws lv n (v :: rest)) : ZZ p l e R s m args below meth c G A nL cells slots Q ws lv pc (.ref a :: rest) := z_get hC 6 inX0 rfl (by decide) q38 q0 he hv hdg hn k
theorem gf_X0_34 {p : Program} {l : Launch} {e : Env} {R : Room} {s : State} {m : MethodId} {args : Array Value} {below : List Frame} {meth : Method} {c : Code} {cc : ByteArray} {nL : Nat} {G : va_G} {tys : List (ClassId × FieldType)} {A : Nat → Prop} {cells slots : Nat} {Q : State → Prop} {ws : va_W} {lv : List (Nat × Value)} {pc n : Nat} {rest : List Value} (hC : Cx p s m args c cc nL RX0 G tys A) (q0 : Nat) {a : Nat} {fs : List Value} {v : Value} (he : ws[q0]? = some (a, .inr (0, fs))) (hv : fs[7]? = some v) (hdg : decode cc pc = .ok (.getfield 34, 3)) (hn : pc + 3 = n) (k : ZZ p l e R s m args below meth c G A nL cells slots Q ws lv n (v :: rest)) : ZZ p l e R s m args below meth c G A nL cells slots Q ws lv pc (.ref a :: rest) := z_get hC 7 inX0 rfl (by decide) q39 q0 he hv hdg hn k
theorem gf_X0_37 {p : Program} {l : Launch} {e : Env} {R : Room} {s : State} {m : MethodId} {args : Array Value} {below : List Frame} {meth : Method} {c : Code} {cc : ByteArray} {nL : Nat} {G : va_G} {tys : List (ClassId × FieldType)} {A : Nat → Prop} {cells slots : Nat} {Q : State → Prop} {ws : va_W} {lv : List (Nat × Value)} {pc n : Nat} {rest : List Value} (hC : Cx p s m args c cc nL RX0 G tys A) (q0 : Nat) {a : Nat} {fs : List Value} {v : Value} (he : ws[q0]? = some (a, .inr (0, fs))) (hv : fs[8]? = some v) (hdg : decode cc pc = .ok (.getfield 37, 3)) (hn : pc + 3 = n) (k : ZZ p l e R s m args below meth c G A nL cells slots Q ws lv n (v :: rest)) : ZZ p l e R s m args below meth c G A nL cells slots Q ws lv pc (.ref a :: rest) := z_get hC 8 inX0 rfl (by decide) q40 q0 he hv hdg hn k
theorem pf_X0_37 {p : Program} {l : Launch} {e : Env} {R : Room} {s : State} {m : MethodId} {args : Array Value} {below : List Frame} {meth : Method} {c : Code} {cc : ByteArray} {nL : Nat} {G : va_G} {tys : List (ClassId × FieldType)} {A : Nat → Prop} {cells slots : Nat} {Q : State → Prop} {ws : va_W} {lv : List (Nat × Value)} {pc n : Nat} {rest : List Value} (hC : Cx p s m args c cc nL RX0 G tys A) (q0 : Nat) {a : Nat} {fs : List Value} {v : Int32} {ws' : va_W} (he : ws[q0]? = some (a, .inr (0, fs))) (hl9 : 8 < fs.length) (hdg : decode cc pc = .ok (.putfield 37, 3)) (hw : ws.set q0 (a, .inr (0, fs.set 8 (.int v))) = ws') (hn : pc + 3 = n) (k : ZZ p l e R s m args below meth c G A nL cells slots Q ws' lv n rest) : ZZ p l e R s m args below meth c G A nL cells slots Q ws lv pc (.int v :: .ref a :: rest) := z_put hC 8 inX0 tyX0 tyX0_ok nmX0 rfl (by decide) q40 rfl (by decide +kernel) q0 he hl9 hdg hw hn k
theorem gf_X2_35 {p : Program} {l : Launch} {e : Env} {R : Room} {s : State} {m : MethodId} {args : Array Value} {below : List Frame} {meth : Method} {c : Code} {cc : ByteArray} {nL : Nat} {G : va_G} {tys : List (ClassId × FieldType)} {A : Nat → Prop} {cells slots : Nat} {Q : State → Prop} {ws : va_W} {lv : List (Nat × Value)} {pc n : Nat} {rest : List Value} (hC : Cx p s m args c cc nL RX2 G tys A) (q0 : Nat) {a : Nat} {fs : List Value} {v : Value} (he : ws[q0]? = some (a, .inr (0, fs))) (hv : fs[8]? = some v) (hdg : decode cc pc = .ok (.getfield 35, 3)) (hn : pc + 3 = n) (k : ZZ p l e R s m args below meth c G A nL cells slots Q ws lv n (v :: rest)) : ZZ p l e R s m args below meth c G A nL cells slots Q ws lv pc (.ref a :: rest) := z_get hC 8 inX0 rfl (by decide) q41 q0 he hv hdg hn k
theorem pf_X2_35 {p : Program} {l : Launch} {e : Env} {R : Room} {s : State} {m : MethodId} {args : Array Value} {below : List Frame} {meth : Method} {c : Code} {cc : ByteArray} {nL : Nat} {G : va_G} {tys : List (ClassId × FieldType)} {A : Nat → Prop} {cells slots : Nat} {Q : State → Prop} {ws : va_W} {lv : List (Nat × Value)} {pc n : Nat} {rest : List Value} (hC : Cx p s m args c cc nL RX2 G tys A) (q0 : Nat) {a : Nat} {fs : List Value} {v : Int32} {ws' : va_W} (he : ws[q0]? = some (a, .inr (0, fs))) (hl9 : 8 < fs.length) (hdg : decode cc pc = .ok (.putfield 35, 3)) (hw : ws.set q0 (a, .inr (0, fs.set 8 (.int v))) = ws') (hn : pc + 3 = n) (k : ZZ p l e R s m args below meth c G A nL cells slots Q ws' lv n rest) : ZZ p l e R s m args below meth c G A nL cells slots Q ws lv pc (.int v :: .ref a :: rest) := z_put hC 8 inX0 tyX0 tyX0_ok nmX0 rfl (by decide) q41 rfl (by decide +kernel) q0 he hl9 hdg hw hn k
theorem gf_X2_10 {p : Program} {l : Launch} {e : Env} {R : Room} {s : State} {m : MethodId} {args : Array Value} {below : List Frame} {meth : Method} {c : Code} {cc : ByteArray} {nL : Nat} {G : va_G} {tys : List (ClassId × FieldType)} {A : Nat → Prop} {cells slots : Nat} {Q : State → Prop} {ws : va_W} {lv : List (Nat × Value)} {pc n : Nat} {rest : List Value} (hC : Cx p s m args c cc nL RX2 G tys A) (q0 : Nat) {a : Nat} {fs : List Value} {v : Value} (he : ws[q0]? = some (a, .inr (2, fs))) (hv : fs[0]? = some v) (hdg : decode cc pc = .ok (.getfield 10, 3)) (hn : pc + 3 = n) (k : ZZ p l e R s m args below meth c G A nL cells slots Q ws lv n (v :: rest)) : ZZ p l e R s m args below meth c G A nL cells slots Q ws lv pc (.ref a :: rest) := z_get hC 0 inX2 rfl (by decide) q42 q0 he hv hdg hn k
theorem gf_X2_19 {p : Program} {l : Launch} {e : Env} {R : Room} {s : State} {m : MethodId} {args : Array Value} {below : List Frame} {meth : Method} {c : Code} {cc : ByteArray} {nL : Nat} {G : va_G} {tys : List (ClassId × FieldType)} {A : Nat → Prop} {cells slots : Nat} {Q : State → Prop} {ws : va_W} {lv : List (Nat × Value)} {pc n : Nat} {rest : List Value} (hC : Cx p s m args c cc nL RX2 G tys A) (q0 : Nat) {a : Nat} {fs : List Value} {v : Value} (he : ws[q0]? = some (a, .inr (2, fs))) (hv : fs[1]? = some v) (hdg : decode cc pc = .ok (.getfield 19, 3)) (hn : pc + 3 = n) (k : ZZ p l e R s m args below meth c G A nL cells slots Q ws lv n (v :: rest)) : ZZ p l e R s m args below meth c G A nL cells slots Q ws lv pc (.ref a :: rest) := z_get hC 1 inX2 rfl (by decide) q43 q0 he hv hdg hn k
theorem gf_X2_23 {p : Program} {l : Launch} {e : Env} {R : Room} {s : State} {m : MethodId} {args : Array Value} {below : List Frame} {meth : Method} {c : Code} {cc : ByteArray} {nL : Nat} {G : va_G} {tys : List (ClassId × FieldType)} {A : Nat → Prop} {cells slots : Nat} {Q : State → Prop} {ws : va_W} {lv : List (Nat × Value)} {pc n : Nat} {rest : List Value} (hC : Cx p s m args c cc nL RX2 G tys A) (q0 : Nat) {a : Nat} {fs : List Value} {v : Value} (he : ws[q0]? = some (a, .inr (2, fs))) (hv : fs[2]? = some v) (hdg : decode cc pc = .ok (.getfield 23, 3)) (hn : pc + 3 = n) (k : ZZ p l e R s m args below meth c G A nL cells slots Q ws lv n (v :: rest)) : ZZ p l e R s m args below meth c G A nL cells slots Q ws lv pc (.ref a :: rest) := z_get hC 2 inX2 rfl (by decide) q44 q0 he hv hdg hn k
theorem gf_X2_72 {p : Program} {l : Launch} {e : Env} {R : Room} {s : State} {m : MethodId} {args : Array Value} {below : List Frame} {meth : Method} {c : Code} {cc : ByteArray} {nL : Nat} {G : va_G} {tys : List (ClassId × FieldType)} {A : Nat → Prop} {cells slots : Nat} {Q : State → Prop} {ws : va_W} {lv : List (Nat × Value)} {pc n : Nat} {rest : List Value} (hC : Cx p s m args c cc nL RX2 G tys A) (q0 : Nat) {a : Nat} {fs : List Value} {v : Value} (he : ws[q0]? = some (a, .inr (2, fs))) (hv : fs[3]? = some v) (hdg : decode cc pc = .ok (.getfield 72, 3)) (hn : pc + 3 = n) (k : ZZ p l e R s m args below meth c G A nL cells slots Q ws lv n (v :: rest)) : ZZ p l e R s m args below meth c G A nL cells slots Q ws lv pc (.ref a :: rest) := z_get hC 3 inX2 rfl (by decide) q45 q0 he hv hdg hn k
theorem pf_X2_72 {p : Program} {l : Launch} {e : Env} {R : Room} {s : State} {m : MethodId} {args : Array Value} {below : List Frame} {meth : Method} {c : Code} {cc : ByteArray} {nL : Nat} {G : va_G} {tys : List (ClassId × FieldType)} {A : Nat → Prop} {cells slots : Nat} {Q : State → Prop} {ws : va_W} {lv : List (Nat × Value)} {pc n : Nat} {rest : List Value} (hC : Cx p s m args c cc nL RX2 G tys A) (q0 : Nat) {a : Nat} {fs : List Value} {v : Int32} {ws' : va_W} (he : ws[q0]? = some (a, .inr (2, fs))) (hl9 : 3 < fs.length) (hdg : decode cc pc = .ok (.putfield 72, 3)) (hw : ws.set q0 (a, .inr (2, fs.set 3 (.int v))) = ws') (hn : pc + 3 = n) (k : ZZ p l e R s m args below meth c G A nL cells slots Q ws' lv n rest) : ZZ p l e R s m args below meth c G A nL cells slots Q ws lv pc (.int v :: .ref a :: rest) := z_put hC 3 inX2 tyX2 tyX2_ok nmX2 rfl (by decide) q45 rfl (by decide +kernel) q0 he hl9 hdg hw hn k
theorem gf_X3_28 {p : Program} {l : Launch} {e : Env} {R : Room} {s : State} {m : MethodId} {args : Array Value} {below : List Frame} {meth : Method} {c : Code} {cc : ByteArray} {nL : Nat} {G : va_G} {tys : List (ClassId × FieldType)} {A : Nat → Prop} {cells slots : Nat} {Q : State → Prop} {ws : va_W} {lv : List (Nat × Value)} {pc n : Nat} {rest : List Value} (hC : Cx p s m args c cc nL RX3 G tys A) (q0 : Nat) {a : Nat} {fs : List Value} {v : Value} (he : ws[q0]? = some (a, .inr (3, fs))) (hv : fs[0]? = some v) (hdg : decode cc pc = .ok (.getfield 28, 3)) (hn : pc + 3 = n) (k : ZZ p l e R s m args below meth c G A nL cells slots Q ws lv n (v :: rest)) : ZZ p l e R s m args below meth c G A nL cells slots Q ws lv pc (.ref a :: rest) := z_get hC 0 inX3 rfl (by decide) q46 q0 he hv hdg hn k
theorem pf_X3_28 {p : Program} {l : Launch} {e : Env} {R : Room} {s : State} {m : MethodId} {args : Array Value} {below : List Frame} {meth : Method} {c : Code} {cc : ByteArray} {nL : Nat} {G : va_G} {tys : List (ClassId × FieldType)} {A : Nat → Prop} {cells slots : Nat} {Q : State → Prop} {ws : va_W} {lv : List (Nat × Value)} {pc n : Nat} {rest : List Value} (hC : Cx p s m args c cc nL RX3 G tys A) (q0 : Nat) {a : Nat} {fs : List Value} {v : Int32} {ws' : va_W} (he : ws[q0]? = some (a, .inr (3, fs))) (hl9 : 0 < fs.length) (hdg : decode cc pc = .ok (.putfield 28, 3)) (hw : ws.set q0 (a, .inr (3, fs.set 0 (.int v))) = ws') (hn : pc + 3 = n) (k : ZZ p l e R s m args below meth c G A nL cells slots Q ws' lv n rest) : ZZ p l e R s m args below meth c G A nL cells slots Q ws lv pc (.int v :: .ref a :: rest) := z_put hC 0 inX3 tyX3 tyX3_ok nmX3 rfl (by decide) q46 rfl (by decide +kernel) q0 he hl9 hdg hw hn k
theorem gf_X3_32 {p : Program} {l : Launch} {e : Env} {R : Room} {s : State} {m : MethodId} {args : Array Value} {below : List Frame} {meth : Method} {c : Code} {cc : ByteArray} {nL : Nat} {G : va_G} {tys : List (ClassId × FieldType)} {A : Nat → Prop} {cells slots : Nat} {Q : State → Prop} {ws : va_W} {lv : List (Nat × Value)} {pc n : Nat} {rest : List Value} (hC : Cx p s m args c cc nL RX3 G tys A) (q0 : Nat) {a : Nat} {fs : List Value} {v : Value} (he : ws[q0]? = some (a, .inr (3, fs))) (hv : fs[1]? = some v) (hdg : decode cc pc = .ok (.getfield 32, 3)) (hn : pc + 3 = n) (k : ZZ p l e R s m args below meth c G A nL cells slots Q ws lv n (v :: rest)) : ZZ p l e R s m args below meth c G A nL cells slots Q ws lv pc (.ref a :: rest) := z_get hC 1 inX3 rfl (by decide) q47 q0 he hv hdg hn k
theorem pf_X3_32 {p : Program} {l : Launch} {e : Env} {R : Room} {s : State} {m : MethodId} {args : Array Value} {below : List Frame} {meth : Method} {c : Code} {cc : ByteArray} {nL : Nat} {G : va_G} {tys : List (ClassId × FieldType)} {A : Nat → Prop} {cells slots : Nat} {Q : State → Prop} {ws : va_W} {lv : List (Nat × Value)} {pc n : Nat} {rest : List Value} (hC : Cx p s m args c cc nL RX3 G tys A) (q0 : Nat) {a : Nat} {fs : List Value} {v : Int32} {ws' : va_W} (he : ws[q0]? = some (a, .inr (3, fs))) (hl9 : 1 < fs.length) (hdg : decode cc pc = .ok (.putfield 32, 3)) (hw : ws.set q0 (a, .inr (3, fs.set 1 (.int v))) = ws') (hn : pc + 3 = n) (k : ZZ p l e R s m args below meth c G A nL cells slots Q ws' lv n rest) : ZZ p l e R s m args below meth c G A nL cells slots Q ws lv pc (.int v :: .ref a :: rest) := z_put hC 1 inX3 tyX3 tyX3_ok nmX3 rfl (by decide) q47 rfl (by decide +kernel) q0 he hl9 hdg hw hn k
theorem gf_X3_9 {p : Program} {l : Launch} {e : Env} {R : Room} {s : State} {m : MethodId} {args : Array Value} {below : List Frame} {meth : Method} {c : Code} {cc : ByteArray} {nL : Nat} {G : va_G} {tys : List (ClassId × FieldType)} {A : Nat → Prop} {cells slots : Nat} {Q : State → Prop} {ws : va_W} {lv : List (Nat × Value)} {pc n : Nat} {rest : List Value} (hC : Cx p s m args c cc nL RX3 G tys A) (q0 : Nat) {a : Nat} {fs : List Value} {v : Value} (he : ws[q0]? = some (a, .inr (3, fs))) (hv : fs[2]? = some v) (hdg : decode cc pc = .ok (.getfield 9, 3)) (hn : pc + 3 = n) (k : ZZ p l e R s m args below meth c G A nL cells slots Q ws lv n (v :: rest)) : ZZ p l e R s m args below meth c G A nL cells slots Q ws lv pc (.ref a :: rest) := z_get hC 2 inX3 rfl (by decide) q48 q0 he hv hdg hn k
theorem gf_X3_13 {p : Program} {l : Launch} {e : Env} {R : Room} {s : State} {m : MethodId} {args : Array Value} {below : List Frame} {meth : Method} {c : Code} {cc : ByteArray} {nL : Nat} {G : va_G} {tys : List (ClassId × FieldType)} {A : Nat → Prop} {cells slots : Nat} {Q : State → Prop} {ws : va_W} {lv : List (Nat × Value)} {pc n : Nat} {rest : List Value} (hC : Cx p s m args c cc nL RX3 G tys A) (q0 : Nat) {a : Nat} {fs : List Value} {v : Value} (he : ws[q0]? = some (a, .inr (3, fs))) (hv : fs[3]? = some v) (hdg : decode cc pc = .ok (.getfield 13, 3)) (hn : pc + 3 = n) (k : ZZ p l e R s m args below meth c G A nL cells slots Q ws lv n (v :: rest)) : ZZ p l e R s m args below meth c G A nL cells slots Q ws lv pc (.ref a :: rest) := z_get hC 3 inX3 rfl (by decide) q49 q0 he hv hdg hn k
theorem gf_X3_16 {p : Program} {l : Launch} {e : Env} {R : Room} {s : State} {m : MethodId} {args : Array Value} {below : List Frame} {meth : Method} {c : Code} {cc : ByteArray} {nL : Nat} {G : va_G} {tys : List (ClassId × FieldType)} {A : Nat → Prop} {cells slots : Nat} {Q : State → Prop} {ws : va_W} {lv : List (Nat × Value)} {pc n : Nat} {rest : List Value} (hC : Cx p s m args c cc nL RX3 G tys A) (q0 : Nat) {a : Nat} {fs : List Value} {v : Value} (he : ws[q0]? = some (a, .inr (3, fs))) (hv : fs[4]? = some v) (hdg : decode cc pc = .ok (.getfield 16, 3)) (hn : pc + 3 = n) (k : ZZ p l e R s m args below meth c G A nL cells slots Q ws lv n (v :: rest)) : ZZ p l e R s m args below meth c G A nL cells slots Q ws lv pc (.ref a :: rest) := z_get hC 4 inX3 rfl (by decide) q50 q0 he hv hdg hn k
theorem gf_X3_19 {p : Program} {l : Launch} {e : Env} {R : Room} {s : State} {m : MethodId} {args : Array Value} {below : List Frame} {meth : Method} {c : Code} {cc : ByteArray} {nL : Nat} {G : va_G} {tys : List (ClassId × FieldType)} {A : Nat → Prop} {cells slots : Nat} {Q : State → Prop} {ws : va_W} {lv : List (Nat × Value)} {pc n : Nat} {rest : List Value} (hC : Cx p s m args c cc nL RX3 G tys A) (q0 : Nat) {a : Nat} {fs : List Value} {v : Value} (he : ws[q0]? = some (a, .inr (3, fs))) (hv : fs[5]? = some v) (hdg : decode cc pc = .ok (.getfield 19, 3)) (hn : pc + 3 = n) (k : ZZ p l e R s m args below meth c G A nL cells slots Q ws lv n (v :: rest)) : ZZ p l e R s m args below meth c G A nL cells slots Q ws lv pc (.ref a :: rest) := z_get hC 5 inX3 rfl (by decide) q51 q0 he hv hdg hn k
theorem gf_X3_22 {p : Program} {l : Launch} {e : Env} {R : Room} {s : State} {m : MethodId} {args : Array Value} {below : List Frame} {meth : Method} {c : Code} {cc : ByteArray} {nL : Nat} {G : va_G} {tys : List (ClassId × FieldType)} {A : Nat → Prop} {cells slots : Nat} {Q : State → Prop} {ws : va_W} {lv : List (Nat × Value)} {pc n : Nat} {rest : List Value} (hC : Cx p s m args c cc nL RX3 G tys A) (q0 : Nat) {a : Nat} {fs : List Value} {v : Value} (he : ws[q0]? = some (a, .inr (3, fs))) (hv : fs[6]? = some v) (hdg : decode cc pc = .ok (.getfield 22, 3)) (hn : pc + 3 = n) (k : ZZ p l e R s m args below meth c G A nL cells slots Q ws lv n (v :: rest)) : ZZ p l e R s m args below meth c G A nL cells slots Q ws lv pc (.ref a :: rest) := z_get hC 6 inX3 rfl (by decide) q52 q0 he hv hdg hn k
theorem gf_X3_25 {p : Program} {l : Launch} {e : Env} {R : Room} {s : State} {m : MethodId} {args : Array Value} {below : List Frame} {meth : Method} {c : Code} {cc : ByteArray} {nL : Nat} {G : va_G} {tys : List (ClassId × FieldType)} {A : Nat → Prop} {cells slots : Nat} {Q : State → Prop} {ws : va_W} {lv : List (Nat × Value)} {pc n : Nat} {rest : List Value} (hC : Cx p s m args c cc nL RX3 G tys A) (q0 : Nat) {a : Nat} {fs : List Value} {v : Value} (he : ws[q0]? = some (a, .inr (3, fs))) (hv : fs[7]? = some v) (hdg : decode cc pc = .ok (.getfield 25, 3)) (hn : pc + 3 = n) (k : ZZ p l e R s m args below meth c G A nL cells slots Q ws lv n (v :: rest)) : ZZ p l e R s m args below meth c G A nL cells slots Q ws lv pc (.ref a :: rest) := z_get hC 7 inX3 rfl (by decide) q53 q0 he hv hdg hn k
theorem kd_yX2_init : yX2_init.cls ≠ "java/lang/invoke/MethodHandle" ∧ yX2_init.cls ≠ "java/lang/invoke/VarHandle" ∧ (parseMethodDescriptor yX2_init.desc).map (fun d => d.parameters.length) = some 0 := by decide +kernel
theorem kg_L_79 : GoodIn zAW ((.code yX2_init prog_1_method_1_code 1 none) :: zAW) := aw_cd q54
theorem kd_yX1_init : yX1_init.cls ≠ "java/lang/invoke/MethodHandle" ∧ yX1_init.cls ≠ "java/lang/invoke/VarHandle" ∧ (parseMethodDescriptor yX1_init.desc).map (fun d => d.parameters.length) = some 0 := by decide +kernel
theorem kg_X2_9 : GoodIn zAW ((.code yX1_init prog_3_method_1_code 2 none) :: zAW) := aw_cd q59
theorem kd_yX0_init : yX0_init.cls ≠ "java/lang/invoke/MethodHandle" ∧ yX0_init.cls ≠ "java/lang/invoke/VarHandle" ∧ (parseMethodDescriptor yX0_init.desc).map (fun d => d.parameters.length) = some 0 := by decide +kernel
theorem kg_X2_18 : GoodIn zAW ((.code yX0_init prog_2_method_1_code 1 none) :: zAW) := aw_cd q64
theorem kd_yX2_turn : yX2_turn.cls = RX2 ∧ yX2_turn.cls ≠ "java/lang/invoke/MethodHandle" ∧ yX2_turn.cls ≠ "java/lang/invoke/VarHandle" ∧ (parseMethodDescriptor yX2_turn.desc).map (fun d => d.parameters.length) = some 0 := by decide +kernel
theorem kg_L_107 : GoodIn zAW (wsV RL 107 RX2 yX2_turn ((.code yX2_turn prog_1_method_7_code 1 (some .int)) :: zAW)) := aw_V q67 q68 q69 q57 q66
theorem kd_yX2_guns : yX2_guns.cls = RX2 ∧ yX2_guns.cls ≠ "java/lang/invoke/MethodHandle" ∧ yX2_guns.cls ≠ "java/lang/invoke/VarHandle" ∧ (parseMethodDescriptor yX2_guns.desc).map (fun d => d.parameters.length) = some 0 := by decide +kernel
theorem kg_L_123 : GoodIn zAW (wsV RL 123 RX2 yX2_guns ((.code yX2_guns prog_1_method_12_code 1 (some .int)) :: zAW)) := aw_V q71 q72 q73 q57 q70
theorem kd_yX2_leader : yX2_leader.cls = RX2 ∧ yX2_leader.cls ≠ "java/lang/invoke/MethodHandle" ∧ yX2_leader.cls ≠ "java/lang/invoke/VarHandle" ∧ (parseMethodDescriptor yX2_leader.desc).map (fun d => d.parameters.length) = some 0 := by decide +kernel
theorem kg_L_142 : GoodIn zAW (wsV RL 142 RX2 yX2_leader ((.code yX2_leader prog_1_method_18_code 1 (some .int)) :: zAW)) := aw_V q75 q76 q77 q57 q74
theorem kd_yX0_leading : yX0_leading.cls = RX0 ∧ yX0_leading.cls ≠ "java/lang/invoke/MethodHandle" ∧ yX0_leading.cls ≠ "java/lang/invoke/VarHandle" ∧ (parseMethodDescriptor yX0_leading.desc).map (fun d => d.parameters.length) = some 0 := by decide +kernel
theorem kg_X2_118 : GoodIn zAW (wsV RX2 118 RX0 yX0_leading ((.code yX0_leading prog_2_method_9_code 3 (some .int)) :: zAW)) := aw_V q79 q80 q81 q82 q78
theorem kd_yX2_tied : yX2_tied.cls = RX2 ∧ yX2_tied.cls ≠ "java/lang/invoke/MethodHandle" ∧ yX2_tied.cls ≠ "java/lang/invoke/VarHandle" ∧ (parseMethodDescriptor yX2_tied.desc).map (fun d => d.parameters.length) = some 0 := by decide +kernel
theorem kg_L_146 : GoodIn zAW (wsV RL 146 RX2 yX2_tied ((.code yX2_tied prog_1_method_19_code 1 (some .int)) :: zAW)) := aw_V q84 q85 q86 q57 q83
theorem kd_yX0_countTied : yX0_countTied.cls = RX0 ∧ yX0_countTied.cls ≠ "java/lang/invoke/MethodHandle" ∧ yX0_countTied.cls ≠ "java/lang/invoke/VarHandle" ∧ (parseMethodDescriptor yX0_countTied.desc).map (fun d => d.parameters.length) = some 0 := by decide +kernel
theorem kg_X2_121 : GoodIn zAW (wsV RX2 121 RX0 yX0_countTied ((.code yX0_countTied prog_2_method_10_code 4 (some .int)) :: zAW)) := aw_V q88 q89 q90 q82 q87
theorem kg_X0_70 : GoodIn zAW (wsV RX0 70 RX0 yX0_leading ((.code yX0_leading prog_2_method_9_code 3 (some .int)) :: zAW)) := aw_V q91 q80 q81 q82 q78
theorem kd_yX2_wouldWin : yX2_wouldWin.cls = RX2 ∧ yX2_wouldWin.cls ≠ "java/lang/invoke/MethodHandle" ∧ yX2_wouldWin.cls ≠ "java/lang/invoke/VarHandle" ∧ (parseMethodDescriptor yX2_wouldWin.desc).map (fun d => d.parameters.length) = some 0 := by decide +kernel
theorem kg_L_162 : GoodIn zAW (wsV RL 162 RX2 yX2_wouldWin ((.code yX2_wouldWin prog_1_method_24_code 1 (some .int)) :: zAW)) := aw_V q93 q94 q95 q57 q92
theorem kd_yX0_takeOver : yX0_takeOver.cls = RX0 ∧ yX0_takeOver.cls ≠ "java/lang/invoke/MethodHandle" ∧ yX0_takeOver.cls ≠ "java/lang/invoke/VarHandle" ∧ (parseMethodDescriptor yX0_takeOver.desc).map (fun d => d.parameters.length) = some 1 := by decide +kernel
theorem kg_X2_127 : GoodIn zAW (wsV RX2 127 RX0 yX0_takeOver ((.code yX0_takeOver prog_2_method_3_code 3 none) :: zAW)) := aw_V q97 q98 q99 q82 q96
theorem kd_yX0_settleTie : yX0_settleTie.cls = RX0 ∧ yX0_settleTie.cls ≠ "java/lang/invoke/MethodHandle" ∧ yX0_settleTie.cls ≠ "java/lang/invoke/VarHandle" ∧ (parseMethodDescriptor yX0_settleTie.desc).map (fun d => d.parameters.length) = some 0 := by decide +kernel
theorem kg_X2_81 : GoodIn zAW (wsV RX2 81 RX0 yX0_settleTie ((.code yX0_settleTie prog_2_method_13_code 3 (some .int)) :: zAW)) := aw_V q101 q102 q103 q82 q100
theorem kd_yX0_countLeft : yX0_countLeft.cls = RX0 ∧ yX0_countLeft.cls ≠ "java/lang/invoke/MethodHandle" ∧ yX0_countLeft.cls ≠ "java/lang/invoke/VarHandle" ∧ (parseMethodDescriptor yX0_countLeft.desc).map (fun d => d.parameters.length) = some 0 := by decide +kernel
theorem kg_X0_74 : GoodIn zAW (wsV RX0 74 RX0 yX0_countLeft ((.code yX0_countLeft prog_2_method_16_code 3 (some .int)) :: zAW)) := aw_V q105 q106 q107 q82 q104
theorem kd_yX0_shootRound : yX0_shootRound.cls = RX0 ∧ yX0_shootRound.cls ≠ "java/lang/invoke/MethodHandle" ∧ yX0_shootRound.cls ≠ "java/lang/invoke/VarHandle" ∧ (parseMethodDescriptor yX0_shootRound.desc).map (fun d => d.parameters.length) = some 1 := by decide +kernel
theorem kg_X0_77 : GoodIn zAW (wsV RX0 77 RX0 yX0_shootRound ((.code yX0_shootRound prog_2_method_14_code 4 none) :: zAW)) := aw_V q109 q110 q111 q82 q108
theorem kd_yX0_trouble : yX0_trouble.cls = RX0 ∧ yX0_trouble.cls ≠ "java/lang/invoke/MethodHandle" ∧ yX0_trouble.cls ≠ "java/lang/invoke/VarHandle" ∧ (parseMethodDescriptor yX0_trouble.desc).map (fun d => d.parameters.length) = some 2 := by decide +kernel
theorem kg_X0_41 : GoodIn zAW (wsV RX0 41 RX0 yX0_trouble ((.code yX0_trouble prog_2_method_4_code 4 (some .int)) :: zAW)) := aw_V q113 q114 q115 q82 q112
theorem kd_yX0_keepThoseWhoHit : yX0_keepThoseWhoHit.cls = RX0 ∧ yX0_keepThoseWhoHit.cls ≠ "java/lang/invoke/MethodHandle" ∧ yX0_keepThoseWhoHit.cls ≠ "java/lang/invoke/VarHandle" ∧ (parseMethodDescriptor yX0_keepThoseWhoHit.desc).map (fun d => d.parameters.length) = some 0 := by decide +kernel
theorem kg_X0_84 : GoodIn zAW (wsV RX0 84 RX0 yX0_keepThoseWhoHit ((.code yX0_keepThoseWhoHit prog_2_method_15_code 2 none) :: zAW)) := aw_V q117 q118 q119 q82 q116
theorem kd_yX0_firstLeft : yX0_firstLeft.cls = RX0 ∧ yX0_firstLeft.cls ≠ "java/lang/invoke/MethodHandle" ∧ yX0_firstLeft.cls ≠ "java/lang/invoke/VarHandle" ∧ (parseMethodDescriptor yX0_firstLeft.desc).map (fun d => d.parameters.length) = some 0 := by decide +kernel
theorem kg_X0_81 : GoodIn zAW (wsV RX0 81 RX0 yX0_firstLeft ((.code yX0_firstLeft prog_2_method_17_code 2 (some .int)) :: zAW)) := aw_V q121 q122 q123 q82 q120
theorem kd_yX2_meanScore : yX2_meanScore.cls = RX2 ∧ yX2_meanScore.cls ≠ "java/lang/invoke/MethodHandle" ∧ yX2_meanScore.cls ≠ "java/lang/invoke/VarHandle" ∧ (parseMethodDescriptor yX2_meanScore.desc).map (fun d => d.parameters.length) = some 0 := by decide +kernel
theorem kg_L_172 : GoodIn zAW (wsV RL 172 RX2 yX2_meanScore ((.code yX2_meanScore prog_1_method_27_code 1 (some .double)) :: zAW)) := aw_V q125 q126 q127 q57 q124
theorem kd_yX0_totalScore : yX0_totalScore.cls = RX0 ∧ yX0_totalScore.cls ≠ "java/lang/invoke/MethodHandle" ∧ yX0_totalScore.cls ≠ "java/lang/invoke/VarHandle" ∧ (parseMethodDescriptor yX0_totalScore.desc).map (fun d => d.parameters.length) = some 0 := by decide +kernel
theorem kg_X2_149 : GoodIn zAW (wsV RX2 149 RX0 yX0_totalScore ((.code yX0_totalScore prog_2_method_12_code 3 (some .int)) :: zAW)) := aw_V q129 q130 q131 q82 q128
theorem kd_yX2_digest : yX2_digest.cls = RX2 ∧ yX2_digest.cls ≠ "java/lang/invoke/MethodHandle" ∧ yX2_digest.cls ≠ "java/lang/invoke/VarHandle" ∧ (parseMethodDescriptor yX2_digest.desc).map (fun d => d.parameters.length) = some 0 := by decide +kernel
theorem kg_L_177 : GoodIn zAW (wsV RL 177 RX2 yX2_digest ((.code yX2_digest prog_1_method_28_code 5 (some .long)) :: zAW)) := aw_V q133 q134 q135 q57 q132
theorem kg_X2_154 : GoodIn zAW (wsV RX2 154 RX2 yX2_turn ((.code yX2_turn prog_1_method_7_code 1 (some .int)) :: zAW)) := aw_V q136 q68 q69 q57 q66
theorem kd_yX2_fold : yX2_fold.cls ≠ "java/lang/invoke/MethodHandle" ∧ yX2_fold.cls ≠ "java/lang/invoke/VarHandle" ∧ (parseMethodDescriptor yX2_fold.desc).map (fun d => d.parameters.length) = some 2 := by decide +kernel
theorem kg_X2_156 : GoodIn zAW (va_wsS RX2 156 yX2_fold ((.code yX2_fold prog_1_method_35_code 4 (some .long)) :: zAW)) := aw_S q138 q139 q57 q137
theorem kg_X2_160 : GoodIn zAW (wsV RX2 160 RX2 yX2_guns ((.code yX2_guns prog_1_method_12_code 1 (some .int)) :: zAW)) := aw_V q140 q72 q73 q57 q70
theorem kg_X2_163 : GoodIn zAW (wsV RX2 163 RX2 yX2_leader ((.code yX2_leader prog_1_method_18_code 1 (some .int)) :: zAW)) := aw_V q141 q76 q77 q57 q74
theorem kg_X2_166 : GoodIn zAW (wsV RX2 166 RX2 yX2_tied ((.code yX2_tied prog_1_method_19_code 1 (some .int)) :: zAW)) := aw_V q142 q85 q86 q57 q83
theorem kg_X2_169 : GoodIn zAW (wsV RX2 169 RX2 yX2_wouldWin ((.code yX2_wouldWin prog_1_method_24_code 1 (some .int)) :: zAW)) := aw_V q143 q94 q95 q57 q92
theorem kd_yX2_leaderIn : yX2_leaderIn.cls = RX2 ∧ yX2_leaderIn.cls ≠ "java/lang/invoke/MethodHandle" ∧ yX2_leaderIn.cls ≠ "java/lang/invoke/VarHandle" ∧ (parseMethodDescriptor yX2_leaderIn.desc).map (fun d => d.parameters.length) = some 1 := by decide +kernel
theorem kg_X2_172 : GoodIn zAW (wsV RX2 172 RX2 yX2_leaderIn ((.code yX2_leaderIn prog_1_method_23_code 2 (some .int)) :: zAW)) := aw_V q145 q146 q147 q57 q144
theorem kd_yX2_checkTurns : yX2_checkTurns.cls ≠ "java/lang/invoke/MethodHandle" ∧ yX2_checkTurns.cls ≠ "java/lang/invoke/VarHandle" ∧ (parseMethodDescriptor yX2_checkTurns.desc).map (fun d => d.parameters.length) = some 1 := by decide +kernel
theorem kg_X2_69 : GoodIn zAW (va_wsS RX2 69 yX2_checkTurns ((.code yX2_checkTurns prog_1_method_31_code 1 none) :: zAW)) := aw_S q149 q150 q57 q148
theorem kd_yX0_play : yX0_play.cls = RX0 ∧ yX0_play.cls ≠ "java/lang/invoke/MethodHandle" ∧ yX0_play.cls ≠ "java/lang/invoke/VarHandle" ∧ (parseMethodDescriptor yX0_play.desc).map (fun d => d.parameters.length) = some 3 := by decide +kernel
theorem kg_X2_75 : GoodIn zAW (wsV RX2 75 RX0 yX0_play ((.code yX0_play prog_2_method_8_code 7 (some .int)) :: zAW)) := aw_V q153 q154 q155 q82 q152
theorem kd_yX0_playAlone : yX0_playAlone.cls = RX0 ∧ yX0_playAlone.cls ≠ "java/lang/invoke/MethodHandle" ∧ yX0_playAlone.cls ≠ "java/lang/invoke/VarHandle" ∧ (parseMethodDescriptor yX0_playAlone.desc).map (fun d => d.parameters.length) = some 4 := by decide +kernel
theorem kg_X0_66 : GoodIn zAW (wsV RX0 66 RX0 yX0_playAlone ((.code yX0_playAlone prog_2_method_7_code 7 none) :: zAW)) := aw_V q157 q158 q159 q82 q156
theorem kd_yX1_amountIn : yX1_amountIn.cls = RX1 ∧ yX1_amountIn.cls ≠ "java/lang/invoke/MethodHandle" ∧ yX1_amountIn.cls ≠ "java/lang/invoke/VarHandle" ∧ (parseMethodDescriptor yX1_amountIn.desc).map (fun d => d.parameters.length) = some 2 := by decide +kernel
theorem kg_X0_48 : GoodIn zAW (wsV RX0 48 RX1 yX1_amountIn ((.code yX1_amountIn prog_3_method_5_code 3 (some .int)) :: zAW)) := aw_V q161 q162 q163 q62 q160
theorem kd_yX1_angleIn : yX1_angleIn.cls = RX1 ∧ yX1_angleIn.cls ≠ "java/lang/invoke/MethodHandle" ∧ yX1_angleIn.cls ≠ "java/lang/invoke/VarHandle" ∧ (parseMethodDescriptor yX1_angleIn.desc).map (fun d => d.parameters.length) = some 2 := by decide +kernel
theorem kg_X1_34 : GoodIn zAW (wsV RX1 34 RX1 yX1_angleIn ((.code yX1_angleIn prog_3_method_3_code 3 (some .int)) :: zAW)) := aw_V q165 q166 q167 q62 q164
theorem kd_yX2_standIn : yX2_standIn.cls ≠ "java/lang/invoke/MethodHandle" ∧ yX2_standIn.cls ≠ "java/lang/invoke/VarHandle" ∧ (parseMethodDescriptor yX2_standIn.desc).map (fun d => d.parameters.length) = some 2 := by decide +kernel
theorem kg_X1_18 : GoodIn zAW ((.code yX2_standIn prog_1_method_33_code 2 (some .int)) :: zAW) := aw_cd q168
theorem kd_yJ9_floorMod_7cf53 : yJ9_floorMod_7cf53.cls ≠ "java/lang/invoke/MethodHandle" ∧ yJ9_floorMod_7cf53.cls ≠ "java/lang/invoke/VarHandle" ∧ (parseMethodDescriptor yJ9_floorMod_7cf53.desc).map (fun d => d.parameters.length) = some 2 := by decide +kernel
theorem kg_X2_217 : GoodIn zAW (va_wsS RX2 217 yJ9_floorMod_7cf53 ((.code yJ9_floorMod_7cf53 prog_11_method_50_code 3 (some .int)) :: zAW)) := aw_S q171 q172 q173 q170
theorem kd_yX2_clayIn : yX2_clayIn.cls ≠ "java/lang/invoke/MethodHandle" ∧ yX2_clayIn.cls ≠ "java/lang/invoke/VarHandle" ∧ (parseMethodDescriptor yX2_clayIn.desc).map (fun d => d.parameters.length) = some 1 := by decide +kernel
theorem kg_X1_22 : GoodIn zAW ((.code yX2_clayIn prog_1_method_32_code 1 (some .int)) :: zAW) := aw_cd q174
theorem kd_yX1_angleAt : yX1_angleAt.cls = RX1 ∧ yX1_angleAt.cls ≠ "java/lang/invoke/MethodHandle" ∧ yX1_angleAt.cls ≠ "java/lang/invoke/VarHandle" ∧ (parseMethodDescriptor yX1_angleAt.desc).map (fun d => d.parameters.length) = some 2 := by decide +kernel
theorem kg_X1_26 : GoodIn zAW (wsV RX1 26 RX1 yX1_angleAt ((.code yX1_angleAt prog_3_method_2_code 3 (some .int)) :: zAW)) := aw_V q177 q178 q179 q62 q176
theorem kd_yX0_shoot : yX0_shoot.cls = RX0 ∧ yX0_shoot.cls ≠ "java/lang/invoke/MethodHandle" ∧ yX0_shoot.cls ≠ "java/lang/invoke/VarHandle" ∧ (parseMethodDescriptor yX0_shoot.desc).map (fun d => d.parameters.length) = some 2 := by decide +kernel
theorem kg_X0_53 : GoodIn zAW (wsV RX0 53 RX0 yX0_shoot ((.code yX0_shoot prog_2_method_6_code 4 none) :: zAW)) := aw_V q182 q183 q184 q82 q181
theorem kd_yX0_outcome : yX0_outcome.cls = RX0 ∧ yX0_outcome.cls ≠ "java/lang/invoke/MethodHandle" ∧ yX0_outcome.cls ≠ "java/lang/invoke/VarHandle" ∧ (parseMethodDescriptor yX0_outcome.desc).map (fun d => d.parameters.length) = some 2 := by decide +kernel
theorem kg_X0_45 : GoodIn zAW (wsV RX0 45 RX0 yX0_outcome ((.code yX0_outcome prog_2_method_5_code 3 (some .int)) :: zAW)) := aw_V q186 q187 q188 q82 q185
theorem kg_X0_57 : GoodIn zAW ((.code yX2_clayIn prog_1_method_32_code 1 (some .int)) :: zAW) := aw_cd q174
theorem kd_yX2_angle : yX2_angle.cls = RX2 ∧ yX2_angle.cls ≠ "java/lang/invoke/MethodHandle" ∧ yX2_angle.cls ≠ "java/lang/invoke/VarHandle" ∧ (parseMethodDescriptor yX2_angle.desc).map (fun d => d.parameters.length) = some 2 := by decide +kernel
theorem kg_X2_175 : GoodIn zAW (wsV RX2 175 RX2 yX2_angle ((.code yX2_angle prog_1_method_8_code 3 (some .int)) :: zAW)) := aw_V q191 q192 q193 q57 q190
theorem kd_yX2_checkStand : yX2_checkStand.cls ≠ "java/lang/invoke/MethodHandle" ∧ yX2_checkStand.cls ≠ "java/lang/invoke/VarHandle" ∧ (parseMethodDescriptor yX2_checkStand.desc).map (fun d => d.parameters.length) = some 1 := by decide +kernel
theorem kg_X2_48 : GoodIn zAW (va_wsS RX2 48 yX2_checkStand ((.code yX2_checkStand prog_1_method_29_code 1 none) :: zAW)) := aw_S q195 q196 q57 q194
theorem kg_X2_90 : GoodIn zAW (wsV RX2 90 RX1 yX1_angleAt ((.code yX1_angleAt prog_3_method_2_code 3 (some .int)) :: zAW)) := aw_V q198 q178 q179 q62 q176
theorem kd_yX2_hardestClay : yX2_hardestClay.cls = RX2 ∧ yX2_hardestClay.cls ≠ "java/lang/invoke/MethodHandle" ∧ yX2_hardestClay.cls ≠ "java/lang/invoke/VarHandle" ∧ (parseMethodDescriptor yX2_hardestClay.desc).map (fun d => d.parameters.length) = some 1 := by decide +kernel
theorem kg_X2_178 : GoodIn zAW (wsV RX2 178 RX2 yX2_hardestClay ((.code yX2_hardestClay prog_1_method_9_code 2 (some .int)) :: zAW)) := aw_V q200 q201 q202 q57 q199
theorem kd_yX1_hardestAt : yX1_hardestAt.cls = RX1 ∧ yX1_hardestAt.cls ≠ "java/lang/invoke/MethodHandle" ∧ yX1_hardestAt.cls ≠ "java/lang/invoke/VarHandle" ∧ (parseMethodDescriptor yX1_hardestAt.desc).map (fun d => d.parameters.length) = some 1 := by decide +kernel
theorem kg_X2_93 : GoodIn zAW (wsV RX2 93 RX1 yX1_hardestAt ((.code yX1_hardestAt prog_3_method_6_code 4 (some .int)) :: zAW)) := aw_V q204 q205 q206 q62 q203
theorem kd_yX1_amountAt : yX1_amountAt.cls = RX1 ∧ yX1_amountAt.cls ≠ "java/lang/invoke/MethodHandle" ∧ yX1_amountAt.cls ≠ "java/lang/invoke/VarHandle" ∧ (parseMethodDescriptor yX1_amountAt.desc).map (fun d => d.parameters.length) = some 2 := by decide +kernel
theorem kg_X1_37 : GoodIn zAW (wsV RX1 37 RX1 yX1_amountAt ((.code yX1_amountAt prog_3_method_4_code 3 (some .int)) :: zAW)) := aw_V q208 q209 q210 q62 q207
theorem kd_yX2_standOf : yX2_standOf.cls = RX2 ∧ yX2_standOf.cls ≠ "java/lang/invoke/MethodHandle" ∧ yX2_standOf.cls ≠ "java/lang/invoke/VarHandle" ∧ (parseMethodDescriptor yX2_standOf.desc).map (fun d => d.parameters.length) = some 1 := by decide +kernel
theorem kg_X2_181 : GoodIn zAW (wsV RX2 181 RX2 yX2_standOf ((.code yX2_standOf prog_1_method_10_code 2 (some .int)) :: zAW)) := aw_V q212 q213 q214 q57 q211
theorem kd_yX2_checkGun : yX2_checkGun.cls = RX2 ∧ yX2_checkGun.cls ≠ "java/lang/invoke/MethodHandle" ∧ yX2_checkGun.cls ≠ "java/lang/invoke/VarHandle" ∧ (parseMethodDescriptor yX2_checkGun.desc).map (fun d => d.parameters.length) = some 1 := by decide +kernel
theorem kg_X2_63 : GoodIn zAW (wsV RX2 63 RX2 yX2_checkGun ((.code yX2_checkGun prog_1_method_30_code 2 none) :: zAW)) := aw_V q216 q217 q218 q57 q215
theorem kg_X2_97 : GoodIn zAW (va_wsS RX2 97 yX2_standIn ((.code yX2_standIn prog_1_method_33_code 2 (some .int)) :: zAW)) := aw_S q219 q169 q57 q168
theorem kd_yX2_angleFor : yX2_angleFor.cls = RX2 ∧ yX2_angleFor.cls ≠ "java/lang/invoke/MethodHandle" ∧ yX2_angleFor.cls ≠ "java/lang/invoke/VarHandle" ∧ (parseMethodDescriptor yX2_angleFor.desc).map (fun d => d.parameters.length) = some 1 := by decide +kernel
theorem kg_X2_184 : GoodIn zAW (wsV RX2 184 RX2 yX2_angleFor ((.code yX2_angleFor prog_1_method_11_code 2 (some .int)) :: zAW)) := aw_V q221 q222 q223 q57 q220
theorem kg_X2_100 : GoodIn zAW (wsV RX2 100 RX1 yX1_angleIn ((.code yX1_angleIn prog_3_method_3_code 3 (some .int)) :: zAW)) := aw_V q224 q166 q167 q62 q164
theorem kd_yX2_scoreOf : yX2_scoreOf.cls = RX2 ∧ yX2_scoreOf.cls ≠ "java/lang/invoke/MethodHandle" ∧ yX2_scoreOf.cls ≠ "java/lang/invoke/VarHandle" ∧ (parseMethodDescriptor yX2_scoreOf.desc).map (fun d => d.parameters.length) = some 1 := by decide +kernel
theorem kg_X2_187 : GoodIn zAW (wsV RX2 187 RX2 yX2_scoreOf ((.code yX2_scoreOf prog_1_method_13_code 2 (some .int)) :: zAW)) := aw_V q226 q227 q228 q57 q225
theorem kd_yX2_firstsOf : yX2_firstsOf.cls = RX2 ∧ yX2_firstsOf.cls ≠ "java/lang/invoke/MethodHandle" ∧ yX2_firstsOf.cls ≠ "java/lang/invoke/VarHandle" ∧ (parseMethodDescriptor yX2_firstsOf.desc).map (fun d => d.parameters.length) = some 1 := by decide +kernel
theorem kg_X2_190 : GoodIn zAW (wsV RX2 190 RX2 yX2_firstsOf ((.code yX2_firstsOf prog_1_method_14_code 2 (some .int)) :: zAW)) := aw_V q230 q231 q232 q57 q229
theorem kd_yX2_missesOf : yX2_missesOf.cls = RX2 ∧ yX2_missesOf.cls ≠ "java/lang/invoke/MethodHandle" ∧ yX2_missesOf.cls ≠ "java/lang/invoke/VarHandle" ∧ (parseMethodDescriptor yX2_missesOf.desc).map (fun d => d.parameters.length) = some 1 := by decide +kernel
theorem kg_X2_193 : GoodIn zAW (wsV RX2 193 RX2 yX2_missesOf ((.code yX2_missesOf prog_1_method_15_code 2 (some .int)) :: zAW)) := aw_V q234 q235 q236 q57 q233
theorem kd_yX2_fatigueOf : yX2_fatigueOf.cls = RX2 ∧ yX2_fatigueOf.cls ≠ "java/lang/invoke/MethodHandle" ∧ yX2_fatigueOf.cls ≠ "java/lang/invoke/VarHandle" ∧ (parseMethodDescriptor yX2_fatigueOf.desc).map (fun d => d.parameters.length) = some 1 := by decide +kernel
theorem kg_X2_196 : GoodIn zAW (wsV RX2 196 RX2 yX2_fatigueOf ((.code yX2_fatigueOf prog_1_method_16_code 2 (some .int)) :: zAW)) := aw_V q238 q239 q240 q57 q237
theorem kd_yX2_wouldHit : yX2_wouldHit.cls = RX2 ∧ yX2_wouldHit.cls ≠ "java/lang/invoke/MethodHandle" ∧ yX2_wouldHit.cls ≠ "java/lang/invoke/VarHandle" ∧ (parseMethodDescriptor yX2_wouldHit.desc).map (fun d => d.parameters.length) = some 1 := by decide +kernel
theorem kg_X2_199 : GoodIn zAW (wsV RX2 199 RX2 yX2_wouldHit ((.code yX2_wouldHit prog_1_method_17_code 2 (some .int)) :: zAW)) := aw_V q242 q243 q244 q57 q241
theorem kg_X2_112 : GoodIn zAW (wsV RX2 112 RX1 yX1_amountIn ((.code yX1_amountIn prog_3_method_5_code 3 (some .int)) :: zAW)) := aw_V q245 q162 q163 q62 q160
theorem kg_X2_115 : GoodIn zAW (wsV RX2 115 RX0 yX0_outcome ((.code yX0_outcome prog_2_method_5_code 3 (some .int)) :: zAW)) := aw_V q246 q187 q188 q82 q185
theorem kd_yX2_rankOf : yX2_rankOf.cls = RX2 ∧ yX2_rankOf.cls ≠ "java/lang/invoke/MethodHandle" ∧ yX2_rankOf.cls ≠ "java/lang/invoke/VarHandle" ∧ (parseMethodDescriptor yX2_rankOf.desc).map (fun d => d.parameters.length) = some 1 := by decide +kernel
theorem kg_X2_202 : GoodIn zAW (wsV RX2 202 RX2 yX2_rankOf ((.code yX2_rankOf prog_1_method_20_code 2 (some .int)) :: zAW)) := aw_V q248 q249 q250 q57 q247
theorem kd_yX0_countAbove : yX0_countAbove.cls = RX0 ∧ yX0_countAbove.cls ≠ "java/lang/invoke/MethodHandle" ∧ yX0_countAbove.cls ≠ "java/lang/invoke/VarHandle" ∧ (parseMethodDescriptor yX0_countAbove.desc).map (fun d => d.parameters.length) = some 1 := by decide +kernel
theorem kg_X2_124 : GoodIn zAW (wsV RX2 124 RX0 yX0_countAbove ((.code yX0_countAbove prog_2_method_11_code 4 (some .int)) :: zAW)) := aw_V q252 q253 q254 q82 q251
theorem kd_yX2_turnsUntilMiss : yX2_turnsUntilMiss.cls = RX2 ∧ yX2_turnsUntilMiss.cls ≠ "java/lang/invoke/MethodHandle" ∧ yX2_turnsUntilMiss.cls ≠ "java/lang/invoke/VarHandle" ∧ (parseMethodDescriptor yX2_turnsUntilMiss.desc).map (fun d => d.parameters.length) = some 1 := by decide +kernel
theorem kg_X2_205 : GoodIn zAW (wsV RX2 205 RX2 yX2_turnsUntilMiss ((.code yX2_turnsUntilMiss prog_1_method_22_code 3 (some .int)) :: zAW)) := aw_V q256 q257 q258 q57 q255
theorem kd_yX2_bestRest : yX2_bestRest.cls = RX2 ∧ yX2_bestRest.cls ≠ "java/lang/invoke/MethodHandle" ∧ yX2_bestRest.cls ≠ "java/lang/invoke/VarHandle" ∧ (parseMethodDescriptor yX2_bestRest.desc).map (fun d => d.parameters.length) = some 1 := by decide +kernel
theorem kg_X2_208 : GoodIn zAW (wsV RX2 208 RX2 yX2_bestRest ((.code yX2_bestRest prog_1_method_25_code 6 (some .int)) :: zAW)) := aw_V q260 q261 q262 q57 q259
theorem kd_yX2_scoreWithRest : yX2_scoreWithRest.cls = RX2 ∧ yX2_scoreWithRest.cls ≠ "java/lang/invoke/MethodHandle" ∧ yX2_scoreWithRest.cls ≠ "java/lang/invoke/VarHandle" ∧ (parseMethodDescriptor yX2_scoreWithRest.desc).map (fun d => d.parameters.length) = some 2 := by decide +kernel
theorem kg_X2_138 : GoodIn zAW (wsV RX2 138 RX2 yX2_scoreWithRest ((.code yX2_scoreWithRest prog_1_method_34_code 3 (some .int)) :: zAW)) := aw_V q264 q265 q266 q57 q263
theorem kg_X2_131 : GoodIn zAW (wsV RX2 131 RX0 yX0_playAlone ((.code yX0_playAlone prog_2_method_7_code 7 none) :: zAW)) := aw_V q267 q158 q159 q82 q156
theorem kd_yL_addGun : yL_addGun.cls ≠ "java/lang/invoke/MethodHandle" ∧ yL_addGun.cls ≠ "java/lang/invoke/VarHandle" ∧ (parseMethodDescriptor yL_addGun.desc).map (fun d => d.parameters.length) = some 4 := by decide +kernel
theorem kg_L_83 : GoodIn zAW (va_wsS RL 83 yL_addGun ((.codeWith yL_addGun method_3_code 5 (some .int) [(0, 10, 13, 13), (0, 10, 17, 15)]) :: zAW)) := aw_S q269 q270 q271 q268
theorem kd_yX2_addGun : yX2_addGun.cls = RX2 ∧ yX2_addGun.cls ≠ "java/lang/invoke/MethodHandle" ∧ yX2_addGun.cls ≠ "java/lang/invoke/VarHandle" ∧ (parseMethodDescriptor yX2_addGun.desc).map (fun d => d.parameters.length) = some 2 := by decide +kernel
theorem kg_L_7 : GoodIn zAW (wsV RL 7 RX2 yX2_addGun ((.code yX2_addGun prog_1_method_2_code 3 (some .int)) :: zAW)) := aw_V q273 q274 q275 q57 q272
theorem kd_yX0_enter : yX0_enter.cls = RX0 ∧ yX0_enter.cls ≠ "java/lang/invoke/MethodHandle" ∧ yX0_enter.cls ≠ "java/lang/invoke/VarHandle" ∧ (parseMethodDescriptor yX0_enter.desc).map (fun d => d.parameters.length) = some 2 := by decide +kernel
theorem kg_X2_44 : GoodIn zAW (wsV RX2 44 RX0 yX0_enter ((.code yX0_enter prog_2_method_2_code 4 (some .int)) :: zAW)) := aw_V q278 q279 q280 q82 q277
theorem kd_yL_setTrap : yL_setTrap.cls ≠ "java/lang/invoke/MethodHandle" ∧ yL_setTrap.cls ≠ "java/lang/invoke/VarHandle" ∧ (parseMethodDescriptor yL_setTrap.desc).map (fun d => d.parameters.length) = some 5 := by decide +kernel
theorem kg_L_92 : GoodIn zAW (va_wsS RL 92 yL_setTrap ((.codeWith yL_setTrap method_4_code 6 (some .int) [(0, 12, 15, 21), (0, 12, 19, 13)]) :: zAW)) := aw_S q282 q283 q271 q281
theorem kd_yX2_setTrap : yX2_setTrap.cls = RX2 ∧ yX2_setTrap.cls ≠ "java/lang/invoke/MethodHandle" ∧ yX2_setTrap.cls ≠ "java/lang/invoke/VarHandle" ∧ (parseMethodDescriptor yX2_setTrap.desc).map (fun d => d.parameters.length) = some 3 := by decide +kernel
theorem kg_L_17 : GoodIn zAW (wsV RL 17 RX2 yX2_setTrap ((.code yX2_setTrap prog_1_method_3_code 5 (some .int)) :: zAW)) := aw_V q285 q286 q287 q57 q284
theorem kd_yL_rest : yL_rest.cls ≠ "java/lang/invoke/MethodHandle" ∧ yL_rest.cls ≠ "java/lang/invoke/VarHandle" ∧ (parseMethodDescriptor yL_rest.desc).map (fun d => d.parameters.length) = some 3 := by decide +kernel
theorem kg_L_96 : GoodIn zAW (va_wsS RL 96 yL_rest ((.codeWith yL_rest method_5_code 4 (some .int) [(0, 9, 12, 21)]) :: zAW)) := aw_S q289 q290 q271 q288
theorem kd_yX2_rest : yX2_rest.cls = RX2 ∧ yX2_rest.cls ≠ "java/lang/invoke/MethodHandle" ∧ yX2_rest.cls ≠ "java/lang/invoke/VarHandle" ∧ (parseMethodDescriptor yX2_rest.desc).map (fun d => d.parameters.length) = some 1 := by decide +kernel
theorem kg_L_23 : GoodIn zAW (wsV RL 23 RX2 yX2_rest ((.code yX2_rest prog_1_method_4_code 3 (some .int)) :: zAW)) := aw_V q292 q293 q294 q57 q291
theorem kd_yL_pass : yL_pass.cls ≠ "java/lang/invoke/MethodHandle" ∧ yL_pass.cls ≠ "java/lang/invoke/VarHandle" ∧ (parseMethodDescriptor yL_pass.desc).map (fun d => d.parameters.length) = some 3 := by decide +kernel
theorem kg_L_100 : GoodIn zAW (va_wsS RL 100 yL_pass ((.codeWith yL_pass method_6_code 4 (some .int) [(0, 9, 12, 13)]) :: zAW)) := aw_S q296 q297 q271 q295
theorem kd_yX2_pass : yX2_pass.cls = RX2 ∧ yX2_pass.cls ≠ "java/lang/invoke/MethodHandle" ∧ yX2_pass.cls ≠ "java/lang/invoke/VarHandle" ∧ (parseMethodDescriptor yX2_pass.desc).map (fun d => d.parameters.length) = some 1 := by decide +kernel
theorem kg_L_27 : GoodIn zAW (wsV RL 27 RX2 yX2_pass ((.code yX2_pass prog_1_method_5_code 3 (some .int)) :: zAW)) := aw_V q299 q300 q301 q57 q298
theorem kd_yL_shootOff : yL_shootOff.cls ≠ "java/lang/invoke/MethodHandle" ∧ yL_shootOff.cls ≠ "java/lang/invoke/VarHandle" ∧ (parseMethodDescriptor yL_shootOff.desc).map (fun d => d.parameters.length) = some 2 := by decide +kernel
theorem kg_L_103 : GoodIn zAW (va_wsS RL 103 yL_shootOff ((.codeWith yL_shootOff method_7_code 3 (some .int) [(0, 8, 11, 15)]) :: zAW)) := aw_S q303 q304 q271 q302
theorem kd_yX2_shootOff : yX2_shootOff.cls = RX2 ∧ yX2_shootOff.cls ≠ "java/lang/invoke/MethodHandle" ∧ yX2_shootOff.cls ≠ "java/lang/invoke/VarHandle" ∧ (parseMethodDescriptor yX2_shootOff.desc).map (fun d => d.parameters.length) = some 0 := by decide +kernel
theorem kg_L_30 : GoodIn zAW (wsV RL 30 RX2 yX2_shootOff ((.code yX2_shootOff prog_1_method_6_code 1 (some .int)) :: zAW)) := aw_V q306 q307 q308 q57 q305
theorem kd_yL_angle : yL_angle.cls ≠ "java/lang/invoke/MethodHandle" ∧ yL_angle.cls ≠ "java/lang/invoke/VarHandle" ∧ (parseMethodDescriptor yL_angle.desc).map (fun d => d.parameters.length) = some 4 := by decide +kernel
theorem kg_L_111 : GoodIn zAW (va_wsS RL 111 yL_angle ((.codeWith yL_angle method_8_code 5 (some .int) [(0, 10, 13, 21)]) :: zAW)) := aw_S q310 q311 q271 q309
theorem kg_L_34 : GoodIn zAW (wsV RL 34 RX2 yX2_angle ((.code yX2_angle prog_1_method_8_code 3 (some .int)) :: zAW)) := aw_V q312 q192 q193 q57 q190
theorem kd_yL_hardestClay : yL_hardestClay.cls ≠ "java/lang/invoke/MethodHandle" ∧ yL_hardestClay.cls ≠ "java/lang/invoke/VarHandle" ∧ (parseMethodDescriptor yL_hardestClay.desc).map (fun d => d.parameters.length) = some 3 := by decide +kernel
theorem kg_L_114 : GoodIn zAW (va_wsS RL 114 yL_hardestClay ((.codeWith yL_hardestClay method_9_code 4 (some .int) [(0, 9, 12, 21)]) :: zAW)) := aw_S q314 q315 q271 q313
theorem kg_L_37 : GoodIn zAW (wsV RL 37 RX2 yX2_hardestClay ((.code yX2_hardestClay prog_1_method_9_code 2 (some .int)) :: zAW)) := aw_V q316 q201 q202 q57 q199
theorem kd_yL_standOf : yL_standOf.cls ≠ "java/lang/invoke/MethodHandle" ∧ yL_standOf.cls ≠ "java/lang/invoke/VarHandle" ∧ (parseMethodDescriptor yL_standOf.desc).map (fun d => d.parameters.length) = some 3 := by decide +kernel
theorem kg_L_117 : GoodIn zAW (va_wsS RL 117 yL_standOf ((.codeWith yL_standOf method_10_code 4 (some .int) [(0, 9, 12, 21)]) :: zAW)) := aw_S q318 q319 q271 q317
theorem kg_L_40 : GoodIn zAW (wsV RL 40 RX2 yX2_standOf ((.code yX2_standOf prog_1_method_10_code 2 (some .int)) :: zAW)) := aw_V q320 q213 q214 q57 q211
theorem kd_yL_angleFor : yL_angleFor.cls ≠ "java/lang/invoke/MethodHandle" ∧ yL_angleFor.cls ≠ "java/lang/invoke/VarHandle" ∧ (parseMethodDescriptor yL_angleFor.desc).map (fun d => d.parameters.length) = some 3 := by decide +kernel
theorem kg_L_120 : GoodIn zAW (va_wsS RL 120 yL_angleFor ((.codeWith yL_angleFor method_11_code 4 (some .int) [(0, 9, 12, 21)]) :: zAW)) := aw_S q322 q323 q271 q321
theorem kg_L_43 : GoodIn zAW (wsV RL 43 RX2 yX2_angleFor ((.code yX2_angleFor prog_1_method_11_code 2 (some .int)) :: zAW)) := aw_V q324 q222 q223 q57 q220
theorem kd_yL_scoreOf : yL_scoreOf.cls ≠ "java/lang/invoke/MethodHandle" ∧ yL_scoreOf.cls ≠ "java/lang/invoke/VarHandle" ∧ (parseMethodDescriptor yL_scoreOf.desc).map (fun d => d.parameters.length) = some 3 := by decide +kernel
theorem kg_L_127 : GoodIn zAW (va_wsS RL 127 yL_scoreOf ((.codeWith yL_scoreOf method_12_code 4 (some .int) [(0, 9, 12, 21)]) :: zAW)) := aw_S q326 q327 q271 q325
theorem kg_L_46 : GoodIn zAW (wsV RL 46 RX2 yX2_scoreOf ((.code yX2_scoreOf prog_1_method_13_code 2 (some .int)) :: zAW)) := aw_V q328 q227 q228 q57 q225
theorem kd_yL_firstsOf : yL_firstsOf.cls ≠ "java/lang/invoke/MethodHandle" ∧ yL_firstsOf.cls ≠ "java/lang/invoke/VarHandle" ∧ (parseMethodDescriptor yL_firstsOf.desc).map (fun d => d.parameters.length) = some 3 := by decide +kernel
theorem kg_L_130 : GoodIn zAW (va_wsS RL 130 yL_firstsOf ((.codeWith yL_firstsOf method_13_code 4 (some .int) [(0, 9, 12, 21)]) :: zAW)) := aw_S q330 q331 q271 q329
theorem kg_L_49 : GoodIn zAW (wsV RL 49 RX2 yX2_firstsOf ((.code yX2_firstsOf prog_1_method_14_code 2 (some .int)) :: zAW)) := aw_V q332 q231 q232 q57 q229
theorem kd_yL_missesOf : yL_missesOf.cls ≠ "java/lang/invoke/MethodHandle" ∧ yL_missesOf.cls ≠ "java/lang/invoke/VarHandle" ∧ (parseMethodDescriptor yL_missesOf.desc).map (fun d => d.parameters.length) = some 3 := by decide +kernel
theorem kg_L_133 : GoodIn zAW (va_wsS RL 133 yL_missesOf ((.codeWith yL_missesOf method_14_code 4 (some .int) [(0, 9, 12, 21)]) :: zAW)) := aw_S q334 q335 q271 q333
theorem kg_L_52 : GoodIn zAW (wsV RL 52 RX2 yX2_missesOf ((.code yX2_missesOf prog_1_method_15_code 2 (some .int)) :: zAW)) := aw_V q336 q235 q236 q57 q233
theorem kd_yL_fatigueOf : yL_fatigueOf.cls ≠ "java/lang/invoke/MethodHandle" ∧ yL_fatigueOf.cls ≠ "java/lang/invoke/VarHandle" ∧ (parseMethodDescriptor yL_fatigueOf.desc).map (fun d => d.parameters.length) = some 3 := by decide +kernel
theorem kg_L_136 : GoodIn zAW (va_wsS RL 136 yL_fatigueOf ((.codeWith yL_fatigueOf method_15_code 4 (some .int) [(0, 9, 12, 21)]) :: zAW)) := aw_S q338 q339 q271 q337
theorem kg_L_55 : GoodIn zAW (wsV RL 55 RX2 yX2_fatigueOf ((.code yX2_fatigueOf prog_1_method_16_code 2 (some .int)) :: zAW)) := aw_V q340 q239 q240 q57 q237
theorem kd_yL_wouldHit : yL_wouldHit.cls ≠ "java/lang/invoke/MethodHandle" ∧ yL_wouldHit.cls ≠ "java/lang/invoke/VarHandle" ∧ (parseMethodDescriptor yL_wouldHit.desc).map (fun d => d.parameters.length) = some 3 := by decide +kernel
theorem kg_L_139 : GoodIn zAW (va_wsS RL 139 yL_wouldHit ((.codeWith yL_wouldHit method_16_code 4 (some .int) [(0, 9, 12, 21)]) :: zAW)) := aw_S q342 q343 q271 q341
theorem kg_L_58 : GoodIn zAW (wsV RL 58 RX2 yX2_wouldHit ((.code yX2_wouldHit prog_1_method_17_code 2 (some .int)) :: zAW)) := aw_V q344 q243 q244 q57 q241
theorem kd_yL_rankOf : yL_rankOf.cls ≠ "java/lang/invoke/MethodHandle" ∧ yL_rankOf.cls ≠ "java/lang/invoke/VarHandle" ∧ (parseMethodDescriptor yL_rankOf.desc).map (fun d => d.parameters.length) = some 3 := by decide +kernel
theorem kg_L_150 : GoodIn zAW (va_wsS RL 150 yL_rankOf ((.codeWith yL_rankOf method_17_code 4 (some .int) [(0, 9, 12, 21)]) :: zAW)) := aw_S q346 q347 q271 q345
theorem kg_L_61 : GoodIn zAW (wsV RL 61 RX2 yX2_rankOf ((.code yX2_rankOf prog_1_method_20_code 2 (some .int)) :: zAW)) := aw_V q348 q249 q250 q57 q247
theorem kd_yL_scoreIn : yL_scoreIn.cls ≠ "java/lang/invoke/MethodHandle" ∧ yL_scoreIn.cls ≠ "java/lang/invoke/VarHandle" ∧ (parseMethodDescriptor yL_scoreIn.desc).map (fun d => d.parameters.length) = some 4 := by decide +kernel
theorem kg_L_153 : GoodIn zAW (va_wsS RL 153 yL_scoreIn ((.codeWith yL_scoreIn method_18_code 5 (some .int) [(0, 10, 13, 21), (0, 10, 17, 13)]) :: zAW)) := aw_S q350 q351 q271 q349
theorem kd_yX2_scoreIn : yX2_scoreIn.cls = RX2 ∧ yX2_scoreIn.cls ≠ "java/lang/invoke/MethodHandle" ∧ yX2_scoreIn.cls ≠ "java/lang/invoke/VarHandle" ∧ (parseMethodDescriptor yX2_scoreIn.desc).map (fun d => d.parameters.length) = some 2 := by decide +kernel
theorem kg_L_64 : GoodIn zAW (wsV RL 64 RX2 yX2_scoreIn ((.code yX2_scoreIn prog_1_method_21_code 3 (some .int)) :: zAW)) := aw_V q353 q354 q355 q57 q352
theorem kd_yL_turnsUntilMiss : yL_turnsUntilMiss.cls ≠ "java/lang/invoke/MethodHandle" ∧ yL_turnsUntilMiss.cls ≠ "java/lang/invoke/VarHandle" ∧ (parseMethodDescriptor yL_turnsUntilMiss.desc).map (fun d => d.parameters.length) = some 3 := by decide +kernel
theorem kg_L_156 : GoodIn zAW (va_wsS RL 156 yL_turnsUntilMiss ((.codeWith yL_turnsUntilMiss method_19_code 4 (some .int) [(0, 9, 12, 21)]) :: zAW)) := aw_S q357 q358 q271 q356
theorem kg_L_67 : GoodIn zAW (wsV RL 67 RX2 yX2_turnsUntilMiss ((.code yX2_turnsUntilMiss prog_1_method_22_code 3 (some .int)) :: zAW)) := aw_V q359 q257 q258 q57 q255
theorem kd_yL_leaderIn : yL_leaderIn.cls ≠ "java/lang/invoke/MethodHandle" ∧ yL_leaderIn.cls ≠ "java/lang/invoke/VarHandle" ∧ (parseMethodDescriptor yL_leaderIn.desc).map (fun d => d.parameters.length) = some 3 := by decide +kernel
theorem kg_L_159 : GoodIn zAW (va_wsS RL 159 yL_leaderIn ((.codeWith yL_leaderIn method_20_code 4 (some .int) [(0, 9, 12, 13)]) :: zAW)) := aw_S q361 q362 q271 q360
theorem kg_L_70 : GoodIn zAW (wsV RL 70 RX2 yX2_leaderIn ((.code yX2_leaderIn prog_1_method_23_code 2 (some .int)) :: zAW)) := aw_V q363 q146 q147 q57 q144
theorem kd_yL_bestRest : yL_bestRest.cls ≠ "java/lang/invoke/MethodHandle" ∧ yL_bestRest.cls ≠ "java/lang/invoke/VarHandle" ∧ (parseMethodDescriptor yL_bestRest.desc).map (fun d => d.parameters.length) = some 3 := by decide +kernel
theorem kg_L_166 : GoodIn zAW (va_wsS RL 166 yL_bestRest ((.codeWith yL_bestRest method_21_code 4 (some .int) [(0, 9, 12, 21)]) :: zAW)) := aw_S q365 q366 q271 q364
theorem kg_L_73 : GoodIn zAW (wsV RL 73 RX2 yX2_bestRest ((.code yX2_bestRest prog_1_method_25_code 6 (some .int)) :: zAW)) := aw_V q367 q261 q262 q57 q259
theorem kd_yL_swingWanted : yL_swingWanted.cls ≠ "java/lang/invoke/MethodHandle" ∧ yL_swingWanted.cls ≠ "java/lang/invoke/VarHandle" ∧ (parseMethodDescriptor yL_swingWanted.desc).map (fun d => d.parameters.length) = some 3 := by decide +kernel
theorem kg_L_169 : GoodIn zAW (va_wsS RL 169 yL_swingWanted ((.codeWith yL_swingWanted method_22_code 4 (some .int) [(0, 9, 12, 21)]) :: zAW)) := aw_S q369 q370 q271 q368
theorem kd_yX2_swingWanted : yX2_swingWanted.cls = RX2 ∧ yX2_swingWanted.cls ≠ "java/lang/invoke/MethodHandle" ∧ yX2_swingWanted.cls ≠ "java/lang/invoke/VarHandle" ∧ (parseMethodDescriptor yX2_swingWanted.desc).map (fun d => d.parameters.length) = some 1 := by decide +kernel
theorem kg_L_76 : GoodIn zAW (wsV RL 76 RX2 yX2_swingWanted ((.code yX2_swingWanted prog_1_method_26_code 3 (some .int)) :: zAW)) := aw_V q372 q373 q374 q57 q371
theorem kd_yX1_greatestAmount : yX1_greatestAmount.cls = RX1 ∧ yX1_greatestAmount.cls ≠ "java/lang/invoke/MethodHandle" ∧ yX1_greatestAmount.cls ≠ "java/lang/invoke/VarHandle" ∧ (parseMethodDescriptor yX1_greatestAmount.desc).map (fun d => d.parameters.length) = some 0 := by decide +kernel
theorem kg_X2_141 : GoodIn zAW (wsV RX2 141 RX1 yX1_greatestAmount ((.code yX1_greatestAmount prog_3_method_7_code 3 (some .int)) :: zAW)) := aw_V q376 q377 q378 q62 q375
theorem kg_X1_40 : GoodIn zAW (wsV RX1 40 RX1 yX1_hardestAt ((.code yX1_hardestAt prog_3_method_6_code 4 (some .int)) :: zAW)) := aw_V q379 q205 q206 q62 q203
theorem kd_yX3_init : yX3_init.cls ≠ "java/lang/invoke/MethodHandle" ∧ yX3_init.cls ≠ "java/lang/invoke/VarHandle" ∧ (parseMethodDescriptor yX3_init.desc).map (fun d => d.parameters.length) = some 0 := by decide +kernel
theorem kg_L_82 : GoodIn zAW ((.code yX3_init prog_5_method_1_code 1 none) :: zAW) := aw_cd q382
theorem kd_yX3_thrown : yX3_thrown.cls = RX3 ∧ yX3_thrown.cls ≠ "java/lang/invoke/MethodHandle" ∧ yX3_thrown.cls ≠ "java/lang/invoke/VarHandle" ∧ (parseMethodDescriptor yX3_thrown.desc).map (fun d => d.parameters.length) = some 0 := by decide +kernel
theorem kg_L_89 : GoodIn zAW (wsV RL 89 RX3 yX3_thrown ((.code yX3_thrown prog_5_method_2_code 1 (some .int)) :: zAW)) := aw_V q388 q389 q390 q385 q387
theorem kd_yX3_addGun : yX3_addGun.cls = RX3 ∧ yX3_addGun.cls ≠ "java/lang/invoke/MethodHandle" ∧ yX3_addGun.cls ≠ "java/lang/invoke/VarHandle" ∧ (parseMethodDescriptor yX3_addGun.desc).map (fun d => d.parameters.length) = some 2 := by decide +kernel
theorem kg_L_88 : GoodIn zAW (wsV RL 88 RX3 yX3_addGun ((.code yX3_addGun prog_5_method_21_code 3 (some .int)) :: zAW)) := aw_V q392 q393 q394 q385 q391
theorem kd_yX3_isFrom : yX3_isFrom.cls ≠ "java/lang/invoke/MethodHandle" ∧ yX3_isFrom.cls ≠ "java/lang/invoke/VarHandle" ∧ (parseMethodDescriptor yX3_isFrom.desc).map (fun d => d.parameters.length) = some 3 := by decide +kernel
theorem kg_X3_35 : GoodIn zAW (va_wsS RX3 35 yX3_isFrom ((.code yX3_isFrom prog_5_method_5_code 3 (some .boolean)) :: zAW)) := aw_S q396 q397 q385 q395
theorem kd_yX3_no : yX3_no.cls = RX3 ∧ yX3_no.cls ≠ "java/lang/invoke/MethodHandle" ∧ yX3_no.cls ≠ "java/lang/invoke/VarHandle" ∧ (parseMethodDescriptor yX3_no.desc).map (fun d => d.parameters.length) = some 1 := by decide +kernel
theorem kg_X3_92 : GoodIn zAW (wsV RX3 92 RX3 yX3_no ((.code yX3_no prog_5_method_3_code 2 (some .int)) :: zAW)) := aw_V q399 q400 q401 q385 q398
theorem kd_yX3_setTrap : yX3_setTrap.cls = RX3 ∧ yX3_setTrap.cls ≠ "java/lang/invoke/MethodHandle" ∧ yX3_setTrap.cls ≠ "java/lang/invoke/VarHandle" ∧ (parseMethodDescriptor yX3_setTrap.desc).map (fun d => d.parameters.length) = some 3 := by decide +kernel
theorem kg_L_95 : GoodIn zAW (wsV RL 95 RX3 yX3_setTrap ((.code yX3_setTrap prog_5_method_22_code 5 (some .int)) :: zAW)) := aw_V q403 q404 q405 q385 q402
theorem kd_yX3_rest : yX3_rest.cls = RX3 ∧ yX3_rest.cls ≠ "java/lang/invoke/MethodHandle" ∧ yX3_rest.cls ≠ "java/lang/invoke/VarHandle" ∧ (parseMethodDescriptor yX3_rest.desc).map (fun d => d.parameters.length) = some 1 := by decide +kernel
theorem kg_L_99 : GoodIn zAW (wsV RL 99 RX3 yX3_rest ((.code yX3_rest prog_5_method_23_code 3 (some .int)) :: zAW)) := aw_V q407 q408 q409 q385 q406
theorem kd_yX3_isGun : yX3_isGun.cls = RX3 ∧ yX3_isGun.cls ≠ "java/lang/invoke/MethodHandle" ∧ yX3_isGun.cls ≠ "java/lang/invoke/VarHandle" ∧ (parseMethodDescriptor yX3_isGun.desc).map (fun d => d.parameters.length) = some 1 := by decide +kernel
theorem kg_X3_95 : GoodIn zAW (wsV RX3 95 RX3 yX3_isGun ((.code yX3_isGun prog_5_method_6_code 2 (some .boolean)) :: zAW)) := aw_V q411 q412 q413 q385 q410
theorem kd_yX3_pass : yX3_pass.cls = RX3 ∧ yX3_pass.cls ≠ "java/lang/invoke/MethodHandle" ∧ yX3_pass.cls ≠ "java/lang/invoke/VarHandle" ∧ (parseMethodDescriptor yX3_pass.desc).map (fun d => d.parameters.length) = some 1 := by decide +kernel
theorem kg_L_102 : GoodIn zAW (wsV RL 102 RX3 yX3_pass ((.code yX3_pass prog_5_method_24_code 3 (some .int)) :: zAW)) := aw_V q415 q416 q417 q385 q414
theorem kd_yX3_missed : yX3_missed.cls = RX3 ∧ yX3_missed.cls ≠ "java/lang/invoke/MethodHandle" ∧ yX3_missed.cls ≠ "java/lang/invoke/VarHandle" ∧ (parseMethodDescriptor yX3_missed.desc).map (fun d => d.parameters.length) = some 0 := by decide +kernel
theorem kg_X3_99 : GoodIn zAW (wsV RX3 99 RX3 yX3_missed ((.code yX3_missed prog_5_method_17_code 3 (some .int)) :: zAW)) := aw_V q419 q420 q421 q385 q418
theorem kd_yX3_turnsOn : yX3_turnsOn.cls = RX3 ∧ yX3_turnsOn.cls ≠ "java/lang/invoke/MethodHandle" ∧ yX3_turnsOn.cls ≠ "java/lang/invoke/VarHandle" ∧ (parseMethodDescriptor yX3_turnsOn.desc).map (fun d => d.parameters.length) = some 1 := by decide +kernel
theorem kg_X3_102 : GoodIn zAW (wsV RX3 102 RX3 yX3_turnsOn ((.code yX3_turnsOn prog_5_method_16_code 3 none) :: zAW)) := aw_V q423 q424 q425 q385 q422
theorem kd_yX3_turnOn : yX3_turnOn.cls = RX3 ∧ yX3_turnOn.cls ≠ "java/lang/invoke/MethodHandle" ∧ yX3_turnOn.cls ≠ "java/lang/invoke/VarHandle" ∧ (parseMethodDescriptor yX3_turnOn.desc).map (fun d => d.parameters.length) = some 0 := by decide +kernel
theorem kg_X3_75 : GoodIn zAW (wsV RX3 75 RX3 yX3_turnOn ((.code yX3_turnOn prog_5_method_15_code 2 none) :: zAW)) := aw_V q427 q428 q429 q385 q426
theorem kd_yX3_shoot : yX3_shoot.cls = RX3 ∧ yX3_shoot.cls ≠ "java/lang/invoke/MethodHandle" ∧ yX3_shoot.cls ≠ "java/lang/invoke/VarHandle" ∧ (parseMethodDescriptor yX3_shoot.desc).map (fun d => d.parameters.length) = some 1 := by decide +kernel
theorem kg_X3_68 : GoodIn zAW (wsV RX3 68 RX3 yX3_shoot ((.code yX3_shoot prog_5_method_14_code 3 none) :: zAW)) := aw_V q431 q432 q433 q385 q430
theorem kd_yX3_hit : yX3_hit.cls = RX3 ∧ yX3_hit.cls ≠ "java/lang/invoke/MethodHandle" ∧ yX3_hit.cls ≠ "java/lang/invoke/VarHandle" ∧ (parseMethodDescriptor yX3_hit.desc).map (fun d => d.parameters.length) = some 1 := by decide +kernel
theorem kg_X3_65 : GoodIn zAW (wsV RX3 65 RX3 yX3_hit ((.code yX3_hit prog_5_method_13_code 2 (some .int)) :: zAW)) := aw_V q435 q436 q437 q385 q434
theorem kd_yX3_far : yX3_far.cls = RX3 ∧ yX3_far.cls ≠ "java/lang/invoke/MethodHandle" ∧ yX3_far.cls ≠ "java/lang/invoke/VarHandle" ∧ (parseMethodDescriptor yX3_far.desc).map (fun d => d.parameters.length) = some 1 := by decide +kernel
theorem kg_X3_62 : GoodIn zAW (wsV RX3 62 RX3 yX3_far ((.code yX3_far prog_5_method_12_code 2 (some .int)) :: zAW)) := aw_V q439 q440 q441 q385 q438
theorem kd_yX3_stand : yX3_stand.cls = RX3 ∧ yX3_stand.cls ≠ "java/lang/invoke/MethodHandle" ∧ yX3_stand.cls ≠ "java/lang/invoke/VarHandle" ∧ (parseMethodDescriptor yX3_stand.desc).map (fun d => d.parameters.length) = some 1 := by decide +kernel
theorem kg_X3_45 : GoodIn zAW (wsV RX3 45 RX3 yX3_stand ((.code yX3_stand prog_5_method_11_code 2 (some .int)) :: zAW)) := aw_V q443 q444 q445 q385 q442
theorem kd_yX3_clay : yX3_clay.cls = RX3 ∧ yX3_clay.cls ≠ "java/lang/invoke/MethodHandle" ∧ yX3_clay.cls ≠ "java/lang/invoke/VarHandle" ∧ (parseMethodDescriptor yX3_clay.desc).map (fun d => d.parameters.length) = some 0 := by decide +kernel
theorem kg_X3_49 : GoodIn zAW (wsV RX3 49 RX3 yX3_clay ((.code yX3_clay prog_5_method_10_code 1 (some .int)) :: zAW)) := aw_V q447 q448 q449 q385 q446
theorem kd_yX3_at : yX3_at.cls = RX3 ∧ yX3_at.cls ≠ "java/lang/invoke/MethodHandle" ∧ yX3_at.cls ≠ "java/lang/invoke/VarHandle" ∧ (parseMethodDescriptor yX3_at.desc).map (fun d => d.parameters.length) = some 2 := by decide +kernel
theorem kg_X3_53 : GoodIn zAW (wsV RX3 53 RX3 yX3_at ((.code yX3_at prog_5_method_9_code 3 (some .int)) :: zAW)) := aw_V q451 q452 q453 q385 q450
theorem kd_yX3_shootOff : yX3_shootOff.cls = RX3 ∧ yX3_shootOff.cls ≠ "java/lang/invoke/MethodHandle" ∧ yX3_shootOff.cls ≠ "java/lang/invoke/VarHandle" ∧ (parseMethodDescriptor yX3_shootOff.desc).map (fun d => d.parameters.length) = some 0 := by decide +kernel
theorem kg_L_106 : GoodIn zAW (wsV RL 106 RX3 yX3_shootOff ((.code yX3_shootOff prog_5_method_25_code 2 (some .int)) :: zAW)) := aw_V q457 q458 q459 q385 q456
theorem kd_yX3_win : yX3_win.cls = RX3 ∧ yX3_win.cls ≠ "java/lang/invoke/MethodHandle" ∧ yX3_win.cls ≠ "java/lang/invoke/VarHandle" ∧ (parseMethodDescriptor yX3_win.desc).map (fun d => d.parameters.length) = some 0 := by decide +kernel
theorem kg_X3_105 : GoodIn zAW (wsV RX3 105 RX3 yX3_win ((.code yX3_win prog_5_method_20_code 5 (some .int)) :: zAW)) := aw_V q461 q462 q463 q385 q460
theorem kd_yX3_best : yX3_best.cls = RX3 ∧ yX3_best.cls ≠ "java/lang/invoke/MethodHandle" ∧ yX3_best.cls ≠ "java/lang/invoke/VarHandle" ∧ (parseMethodDescriptor yX3_best.desc).map (fun d => d.parameters.length) = some 0 := by decide +kernel
theorem kg_X3_81 : GoodIn zAW (wsV RX3 81 RX3 yX3_best ((.code yX3_best prog_5_method_19_code 3 (some .int)) :: zAW)) := aw_V q465 q466 q467 q385 q464
theorem kd_yX3_first : yX3_first.cls = RX3 ∧ yX3_first.cls ≠ "java/lang/invoke/MethodHandle" ∧ yX3_first.cls ≠ "java/lang/invoke/VarHandle" ∧ (parseMethodDescriptor yX3_first.desc).map (fun d => d.parameters.length) = some 0 := by decide +kernel
theorem kg_X3_78 : GoodIn zAW (wsV RX3 78 RX3 yX3_first ((.code yX3_first prog_5_method_18_code 3 (some .int)) :: zAW)) := aw_V q469 q470 q471 q385 q468
theorem kd_yJ6_bitCount_0f7a4 : yJ6_bitCount_0f7a4.cls ≠ "java/lang/invoke/MethodHandle" ∧ yJ6_bitCount_0f7a4.cls ≠ "java/lang/invoke/VarHandle" ∧ (parseMethodDescriptor yJ6_bitCount_0f7a4.desc).map (fun d => d.parameters.length) = some 1 := by decide +kernel
theorem kg_X3_84 : GoodIn zAW (va_wsS RX3 84 yJ6_bitCount_0f7a4 ((.code yJ6_bitCount_0f7a4 prog_10_method_49_code 1 (some .int)) :: zAW)) := aw_S q473 q474 q475 q472
theorem kd_yJ6_numberOfTrailingZeros_0f7a4 : yJ6_numberOfTrailingZeros_0f7a4.cls ≠ "java/lang/invoke/MethodHandle" ∧ yJ6_numberOfTrailingZeros_0f7a4.cls ≠ "java/lang/invoke/VarHandle" ∧ (parseMethodDescriptor yJ6_numberOfTrailingZeros_0f7a4.desc).map (fun d => d.parameters.length) = some 1 := by decide +kernel
theorem kg_X3_89 : GoodIn zAW (va_wsS RX3 89 yJ6_numberOfTrailingZeros_0f7a4 ((.code yJ6_numberOfTrailingZeros_0f7a4 prog_10_method_48_code 2 (some .int)) :: zAW)) := aw_S q477 q478 q475 q476
theorem kd_yX3_ok : yX3_ok.cls = RX3 ∧ yX3_ok.cls ≠ "java/lang/invoke/MethodHandle" ∧ yX3_ok.cls ≠ "java/lang/invoke/VarHandle" ∧ (parseMethodDescriptor yX3_ok.desc).map (fun d => d.parameters.length) = some 1 := by decide +kernel
theorem kg_X3_108 : GoodIn zAW (wsV RX3 108 RX3 yX3_ok ((.code yX3_ok prog_5_method_4_code 2 (some .int)) :: zAW)) := aw_V q480 q481 q482 q385 q479
theorem kd_yX3_turn : yX3_turn.cls = RX3 ∧ yX3_turn.cls ≠ "java/lang/invoke/MethodHandle" ∧ yX3_turn.cls ≠ "java/lang/invoke/VarHandle" ∧ (parseMethodDescriptor yX3_turn.desc).map (fun d => d.parameters.length) = some 0 := by decide +kernel
theorem kg_L_110 : GoodIn zAW (wsV RL 110 RX3 yX3_turn ((.code yX3_turn prog_5_method_26_code 1 (some .int)) :: zAW)) := aw_V q484 q485 q486 q385 q483
theorem kd_yX3_angle : yX3_angle.cls = RX3 ∧ yX3_angle.cls ≠ "java/lang/invoke/MethodHandle" ∧ yX3_angle.cls ≠ "java/lang/invoke/VarHandle" ∧ (parseMethodDescriptor yX3_angle.desc).map (fun d => d.parameters.length) = some 2 := by decide +kernel
theorem kg_L_113 : GoodIn zAW (wsV RL 113 RX3 yX3_angle ((.code yX3_angle prog_5_method_27_code 3 (some .int)) :: zAW)) := aw_V q488 q489 q490 q385 q487
theorem kd_yX3_hardestClay : yX3_hardestClay.cls = RX3 ∧ yX3_hardestClay.cls ≠ "java/lang/invoke/MethodHandle" ∧ yX3_hardestClay.cls ≠ "java/lang/invoke/VarHandle" ∧ (parseMethodDescriptor yX3_hardestClay.desc).map (fun d => d.parameters.length) = some 1 := by decide +kernel
theorem kg_L_116 : GoodIn zAW (wsV RL 116 RX3 yX3_hardestClay ((.code yX3_hardestClay prog_5_method_29_code 2 (some .int)) :: zAW)) := aw_V q492 q493 q494 q385 q491
theorem kd_yX3_hardest : yX3_hardest.cls = RX3 ∧ yX3_hardest.cls ≠ "java/lang/invoke/MethodHandle" ∧ yX3_hardest.cls ≠ "java/lang/invoke/VarHandle" ∧ (parseMethodDescriptor yX3_hardest.desc).map (fun d => d.parameters.length) = some 1 := by decide +kernel
theorem kg_X3_111 : GoodIn zAW (wsV RX3 111 RX3 yX3_hardest ((.code yX3_hardest prog_5_method_28_code 4 (some .int)) :: zAW)) := aw_V q496 q497 q498 q385 q495
theorem kd_yX3_standOf : yX3_standOf.cls = RX3 ∧ yX3_standOf.cls ≠ "java/lang/invoke/MethodHandle" ∧ yX3_standOf.cls ≠ "java/lang/invoke/VarHandle" ∧ (parseMethodDescriptor yX3_standOf.desc).map (fun d => d.parameters.length) = some 1 := by decide +kernel
theorem kg_L_119 : GoodIn zAW (wsV RL 119 RX3 yX3_standOf ((.code yX3_standOf prog_5_method_30_code 2 (some .int)) :: zAW)) := aw_V q500 q501 q502 q385 q499
theorem kd_yX3_angleFor : yX3_angleFor.cls = RX3 ∧ yX3_angleFor.cls ≠ "java/lang/invoke/MethodHandle" ∧ yX3_angleFor.cls ≠ "java/lang/invoke/VarHandle" ∧ (parseMethodDescriptor yX3_angleFor.desc).map (fun d => d.parameters.length) = some 1 := by decide +kernel
theorem kg_L_122 : GoodIn zAW (wsV RL 122 RX3 yX3_angleFor ((.code yX3_angleFor prog_5_method_31_code 2 (some .int)) :: zAW)) := aw_V q504 q505 q506 q385 q503
theorem kd_yX3_guns : yX3_guns.cls = RX3 ∧ yX3_guns.cls ≠ "java/lang/invoke/MethodHandle" ∧ yX3_guns.cls ≠ "java/lang/invoke/VarHandle" ∧ (parseMethodDescriptor yX3_guns.desc).map (fun d => d.parameters.length) = some 0 := by decide +kernel
theorem kg_L_126 : GoodIn zAW (wsV RL 126 RX3 yX3_guns ((.code yX3_guns prog_5_method_32_code 1 (some .int)) :: zAW)) := aw_V q508 q509 q510 q385 q507
theorem kd_yX3_scoreOf : yX3_scoreOf.cls = RX3 ∧ yX3_scoreOf.cls ≠ "java/lang/invoke/MethodHandle" ∧ yX3_scoreOf.cls ≠ "java/lang/invoke/VarHandle" ∧ (parseMethodDescriptor yX3_scoreOf.desc).map (fun d => d.parameters.length) = some 1 := by decide +kernel
theorem kg_L_129 : GoodIn zAW (wsV RL 129 RX3 yX3_scoreOf ((.code yX3_scoreOf prog_5_method_34_code 2 (some .int)) :: zAW)) := aw_V q512 q513 q514 q385 q511
theorem kd_yX3_ofGun : yX3_ofGun.cls = RX3 ∧ yX3_ofGun.cls ≠ "java/lang/invoke/MethodHandle" ∧ yX3_ofGun.cls ≠ "java/lang/invoke/VarHandle" ∧ (parseMethodDescriptor yX3_ofGun.desc).map (fun d => d.parameters.length) = some 2 := by decide +kernel
theorem kg_X3_114 : GoodIn zAW (wsV RX3 114 RX3 yX3_ofGun ((.code yX3_ofGun prog_5_method_33_code 3 (some .int)) :: zAW)) := aw_V q516 q517 q518 q385 q515
theorem kd_yX3_firstsOf : yX3_firstsOf.cls = RX3 ∧ yX3_firstsOf.cls ≠ "java/lang/invoke/MethodHandle" ∧ yX3_firstsOf.cls ≠ "java/lang/invoke/VarHandle" ∧ (parseMethodDescriptor yX3_firstsOf.desc).map (fun d => d.parameters.length) = some 1 := by decide +kernel
theorem kg_L_132 : GoodIn zAW (wsV RL 132 RX3 yX3_firstsOf ((.code yX3_firstsOf prog_5_method_35_code 2 (some .int)) :: zAW)) := aw_V q520 q521 q522 q385 q519
theorem kd_yX3_missesOf : yX3_missesOf.cls = RX3 ∧ yX3_missesOf.cls ≠ "java/lang/invoke/MethodHandle" ∧ yX3_missesOf.cls ≠ "java/lang/invoke/VarHandle" ∧ (parseMethodDescriptor yX3_missesOf.desc).map (fun d => d.parameters.length) = some 1 := by decide +kernel
theorem kg_L_135 : GoodIn zAW (wsV RL 135 RX3 yX3_missesOf ((.code yX3_missesOf prog_5_method_36_code 2 (some .int)) :: zAW)) := aw_V q524 q525 q526 q385 q523
theorem kd_yX3_fatigueOf : yX3_fatigueOf.cls = RX3 ∧ yX3_fatigueOf.cls ≠ "java/lang/invoke/MethodHandle" ∧ yX3_fatigueOf.cls ≠ "java/lang/invoke/VarHandle" ∧ (parseMethodDescriptor yX3_fatigueOf.desc).map (fun d => d.parameters.length) = some 1 := by decide +kernel
theorem kg_L_138 : GoodIn zAW (wsV RL 138 RX3 yX3_fatigueOf ((.code yX3_fatigueOf prog_5_method_37_code 2 (some .int)) :: zAW)) := aw_V q528 q529 q530 q385 q527
theorem kd_yX3_wouldHit : yX3_wouldHit.cls = RX3 ∧ yX3_wouldHit.cls ≠ "java/lang/invoke/MethodHandle" ∧ yX3_wouldHit.cls ≠ "java/lang/invoke/VarHandle" ∧ (parseMethodDescriptor yX3_wouldHit.desc).map (fun d => d.parameters.length) = some 1 := by decide +kernel
theorem kg_L_141 : GoodIn zAW (wsV RL 141 RX3 yX3_wouldHit ((.code yX3_wouldHit prog_5_method_38_code 2 (some .int)) :: zAW)) := aw_V q532 q533 q534 q385 q531
theorem kd_yX3_leader : yX3_leader.cls = RX3 ∧ yX3_leader.cls ≠ "java/lang/invoke/MethodHandle" ∧ yX3_leader.cls ≠ "java/lang/invoke/VarHandle" ∧ (parseMethodDescriptor yX3_leader.desc).map (fun d => d.parameters.length) = some 0 := by decide +kernel
theorem kg_L_145 : GoodIn zAW (wsV RL 145 RX3 yX3_leader ((.code yX3_leader prog_5_method_39_code 1 (some .int)) :: zAW)) := aw_V q536 q537 q538 q385 q535
theorem kd_yX3_tied : yX3_tied.cls = RX3 ∧ yX3_tied.cls ≠ "java/lang/invoke/MethodHandle" ∧ yX3_tied.cls ≠ "java/lang/invoke/VarHandle" ∧ (parseMethodDescriptor yX3_tied.desc).map (fun d => d.parameters.length) = some 0 := by decide +kernel
theorem kg_L_149 : GoodIn zAW (wsV RL 149 RX3 yX3_tied ((.code yX3_tied prog_5_method_40_code 1 (some .int)) :: zAW)) := aw_V q540 q541 q542 q385 q539
theorem kd_yX3_rankOf : yX3_rankOf.cls = RX3 ∧ yX3_rankOf.cls ≠ "java/lang/invoke/MethodHandle" ∧ yX3_rankOf.cls ≠ "java/lang/invoke/VarHandle" ∧ (parseMethodDescriptor yX3_rankOf.desc).map (fun d => d.parameters.length) = some 1 := by decide +kernel
theorem kg_L_152 : GoodIn zAW (wsV RL 152 RX3 yX3_rankOf ((.code yX3_rankOf prog_5_method_42_code 2 (some .int)) :: zAW)) := aw_V q544 q545 q546 q385 q543
theorem kd_yX3_rank : yX3_rank.cls = RX3 ∧ yX3_rank.cls ≠ "java/lang/invoke/MethodHandle" ∧ yX3_rank.cls ≠ "java/lang/invoke/VarHandle" ∧ (parseMethodDescriptor yX3_rank.desc).map (fun d => d.parameters.length) = some 1 := by decide +kernel
theorem kg_X3_117 : GoodIn zAW (wsV RX3 117 RX3 yX3_rank ((.code yX3_rank prog_5_method_41_code 4 (some .int)) :: zAW)) := aw_V q548 q549 q550 q385 q547
theorem kd_yX3_scoreIn : yX3_scoreIn.cls = RX3 ∧ yX3_scoreIn.cls ≠ "java/lang/invoke/MethodHandle" ∧ yX3_scoreIn.cls ≠ "java/lang/invoke/VarHandle" ∧ (parseMethodDescriptor yX3_scoreIn.desc).map (fun d => d.parameters.length) = some 2 := by decide +kernel
theorem kg_L_155 : GoodIn zAW (wsV RL 155 RX3 yX3_scoreIn ((.code yX3_scoreIn prog_5_method_43_code 4 (some .int)) :: zAW)) := aw_V q552 q553 q554 q385 q551
theorem kd_yX3_keep : yX3_keep.cls = RX3 ∧ yX3_keep.cls ≠ "java/lang/invoke/MethodHandle" ∧ yX3_keep.cls ≠ "java/lang/invoke/VarHandle" ∧ (parseMethodDescriptor yX3_keep.desc).map (fun d => d.parameters.length) = some 0 := by decide +kernel
theorem kg_X3_120 : GoodIn zAW (wsV RX3 120 RX3 yX3_keep ((.code yX3_keep prog_5_method_7_code 1 none) :: zAW)) := aw_V q556 q557 q558 q385 q555
theorem kd_yX3_bringBack : yX3_bringBack.cls = RX3 ∧ yX3_bringBack.cls ≠ "java/lang/invoke/MethodHandle" ∧ yX3_bringBack.cls ≠ "java/lang/invoke/VarHandle" ∧ (parseMethodDescriptor yX3_bringBack.desc).map (fun d => d.parameters.length) = some 0 := by decide +kernel
theorem kg_X3_123 : GoodIn zAW (wsV RX3 123 RX3 yX3_bringBack ((.code yX3_bringBack prog_5_method_8_code 1 none) :: zAW)) := aw_V q561 q562 q563 q385 q560
theorem kd_yX3_turnsUntilMiss : yX3_turnsUntilMiss.cls = RX3 ∧ yX3_turnsUntilMiss.cls ≠ "java/lang/invoke/MethodHandle" ∧ yX3_turnsUntilMiss.cls ≠ "java/lang/invoke/VarHandle" ∧ (parseMethodDescriptor yX3_turnsUntilMiss.desc).map (fun d => d.parameters.length) = some 1 := by decide +kernel
theorem kg_L_158 : GoodIn zAW (wsV RL 158 RX3 yX3_turnsUntilMiss ((.code yX3_turnsUntilMiss prog_5_method_45_code 2 (some .int)) :: zAW)) := aw_V q565 q566 q567 q385 q564
theorem kd_yX3_untilMiss : yX3_untilMiss.cls = RX3 ∧ yX3_untilMiss.cls ≠ "java/lang/invoke/MethodHandle" ∧ yX3_untilMiss.cls ≠ "java/lang/invoke/VarHandle" ∧ (parseMethodDescriptor yX3_untilMiss.desc).map (fun d => d.parameters.length) = some 1 := by decide +kernel
theorem kg_X3_126 : GoodIn zAW (wsV RX3 126 RX3 yX3_untilMiss ((.code yX3_untilMiss prog_5_method_44_code 4 (some .int)) :: zAW)) := aw_V q569 q570 q571 q385 q568
theorem kd_yX3_leaderIn : yX3_leaderIn.cls = RX3 ∧ yX3_leaderIn.cls ≠ "java/lang/invoke/MethodHandle" ∧ yX3_leaderIn.cls ≠ "java/lang/invoke/VarHandle" ∧ (parseMethodDescriptor yX3_leaderIn.desc).map (fun d => d.parameters.length) = some 1 := by decide +kernel
theorem kg_L_161 : GoodIn zAW (wsV RL 161 RX3 yX3_leaderIn ((.code yX3_leaderIn prog_5_method_47_code 2 (some .int)) :: zAW)) := aw_V q573 q574 q575 q385 q572
theorem kd_yX3_firstIn : yX3_firstIn.cls = RX3 ∧ yX3_firstIn.cls ≠ "java/lang/invoke/MethodHandle" ∧ yX3_firstIn.cls ≠ "java/lang/invoke/VarHandle" ∧ (parseMethodDescriptor yX3_firstIn.desc).map (fun d => d.parameters.length) = some 1 := by decide +kernel
theorem kg_X3_129 : GoodIn zAW (wsV RX3 129 RX3 yX3_firstIn ((.code yX3_firstIn prog_5_method_46_code 3 (some .int)) :: zAW)) := aw_V q577 q578 q579 q385 q576
theorem kd_yX3_wouldWin : yX3_wouldWin.cls = RX3 ∧ yX3_wouldWin.cls ≠ "java/lang/invoke/MethodHandle" ∧ yX3_wouldWin.cls ≠ "java/lang/invoke/VarHandle" ∧ (parseMethodDescriptor yX3_wouldWin.desc).map (fun d => d.parameters.length) = some 0 := by decide +kernel
theorem kg_L_165 : GoodIn zAW (wsV RL 165 RX3 yX3_wouldWin ((.code yX3_wouldWin prog_5_method_49_code 1 (some .int)) :: zAW)) := aw_V q581 q582 q583 q385 q580
theorem kd_yX3_winner : yX3_winner.cls = RX3 ∧ yX3_winner.cls ≠ "java/lang/invoke/MethodHandle" ∧ yX3_winner.cls ≠ "java/lang/invoke/VarHandle" ∧ (parseMethodDescriptor yX3_winner.desc).map (fun d => d.parameters.length) = some 0 := by decide +kernel
theorem kg_X3_132 : GoodIn zAW (wsV RX3 132 RX3 yX3_winner ((.code yX3_winner prog_5_method_48_code 2 (some .int)) :: zAW)) := aw_V q585 q586 q587 q385 q584
theorem kd_yX3_bestRest : yX3_bestRest.cls = RX3 ∧ yX3_bestRest.cls ≠ "java/lang/invoke/MethodHandle" ∧ yX3_bestRest.cls ≠ "java/lang/invoke/VarHandle" ∧ (parseMethodDescriptor yX3_bestRest.desc).map (fun d => d.parameters.length) = some 1 := by decide +kernel
theorem kg_L_168 : GoodIn zAW (wsV RL 168 RX3 yX3_bestRest ((.code yX3_bestRest prog_5_method_51_code 2 (some .int)) :: zAW)) := aw_V q589 q590 q591 q385 q588
theorem kd_yX3_restFor : yX3_restFor.cls = RX3 ∧ yX3_restFor.cls ≠ "java/lang/invoke/MethodHandle" ∧ yX3_restFor.cls ≠ "java/lang/invoke/VarHandle" ∧ (parseMethodDescriptor yX3_restFor.desc).map (fun d => d.parameters.length) = some 1 := by decide +kernel
theorem kg_X3_135 : GoodIn zAW (wsV RX3 135 RX3 yX3_restFor ((.code yX3_restFor prog_5_method_50_code 6 (some .int)) :: zAW)) := aw_V q593 q594 q595 q385 q592
theorem kd_yX3_swingWanted : yX3_swingWanted.cls = RX3 ∧ yX3_swingWanted.cls ≠ "java/lang/invoke/MethodHandle" ∧ yX3_swingWanted.cls ≠ "java/lang/invoke/VarHandle" ∧ (parseMethodDescriptor yX3_swingWanted.desc).map (fun d => d.parameters.length) = some 1 := by decide +kernel
theorem kg_L_171 : GoodIn zAW (wsV RL 171 RX3 yX3_swingWanted ((.code yX3_swingWanted prog_5_method_52_code 4 (some .int)) :: zAW)) := aw_V q597 q598 q599 q385 q596
theorem kd_yX3_meanScore : yX3_meanScore.cls = RX3 ∧ yX3_meanScore.cls ≠ "java/lang/invoke/MethodHandle" ∧ yX3_meanScore.cls ≠ "java/lang/invoke/VarHandle" ∧ (parseMethodDescriptor yX3_meanScore.desc).map (fun d => d.parameters.length) = some 0 := by decide +kernel
theorem kg_L_176 : GoodIn zAW (wsV RL 176 RX3 yX3_meanScore ((.code yX3_meanScore prog_5_method_53_code 3 (some .double)) :: zAW)) := aw_V q601 q602 q603 q385 q600
theorem kd_yX3_digest : yX3_digest.cls = RX3 ∧ yX3_digest.cls ≠ "java/lang/invoke/MethodHandle" ∧ yX3_digest.cls ≠ "java/lang/invoke/VarHandle" ∧ (parseMethodDescriptor yX3_digest.desc).map (fun d => d.parameters.length) = some 0 := by decide +kernel
theorem kg_L_181 : GoodIn zAW (wsV RL 181 RX3 yX3_digest ((.code yX3_digest prog_5_method_54_code 10 (some .long)) :: zAW)) := aw_V q605 q606 q607 q385 q604
end
section
/-! What both sides compute: one function each. And the worlds: the class's object and what it holds, the model, the law's own array. -/
abbrev tY (cI cZ cJ : ClassId) : List (ClassId × FieldType) := [(cI, .int), (cZ, .boolean), (cJ, .long)]
/-- the traps -/
abbrev wT (a : Nat → Nat) (cI : ClassId) (b r : Nat → Int32) : va_W := [(a 0, .inr (1, [.ref (a 1), .ref (a 2)])), (a 1, .inl (cI, 5, .inl b)), (a 2, .inl (cI, 5, .inl r))]
/-- the class's own object -/
abbrev wH (h : Nat) (ta sa ua : Nat → Nat) (T : Nat) : va_W := [(h, .inr (2, [.ref (ta 0), .ref (sa 0), .ref (ua 0), .int (nI T)]))]
/-- the model -/
abbrev wM (a : Nat → Nat) (cI : ClassId) (th : Int32) (n : Nat) (sw st b r N K : Nat → Int32) : va_W := [(a 0, .inr (3, [.int th, .int (nI n), .ref (a 1), .ref (a 2), .ref (a 3), .ref (a 4), .ref (a 5), .ref (a 6)])), (a 1, .inl (cI, 6, .inl sw)), (a 2, .inl (cI, 6, .inl st)), (a 3, .inl (cI, 5, .inl b)), (a 4, .inl (cI, 5, .inl r)), (a 5, .inl (cI, 25, .inl N)), (a 6, .inl (cI, 25, .inl K))]
/-- the law's own array of one long -/
abbrev wO (o : Nat) (cJ : ClassId) (ov : Nat → Int64) : va_W := [(o, .inl (cJ, 1, .inr (.inl ov)))]
theorem upd_upd {f : Nat → Int32} {k : Nat} {x y : Int32} : upd (upd f k x) k y = upd f k y := by
  funext j
  unfold upd
  by_cases h : j = k <;> simp [h]
theorem upd_id {f : Nat → Int32} {k : Nat} : upd f k (f k) = f := by
  funext j
  unfold upd
  by_cases h : j = k <;> simp [h]
theorem upd_ne {f : Nat → Int32} {k j : Nat} {x : Int32} (h : j ≠ k) : upd f k x j = f j := if_neg h
def absF (x : Int32) : Int32 := if 0 ≤ x then x else 0 - x
def maxF (x y : Int32) : Int32 := if x < y then y else x
/-- the angle of a clay at a stand -/
def angF (b r : Nat → Int32) (s c : Nat) : Int32 := b s + r s * (nI c - nI 2) / nI 2
/-- the stand of a gun in a turn -/
def stF (T g : Nat) : Nat := (g + T / 5) % 5
def amF (b r : Nat → Int32) (T g : Nat) : Int32 := absF (angF b r (stF T g) (T % 5))
/-- the trouble; what a shot does -/
def trF (st fa am : Int32) : Int32 := if nI 1 ≤ st then am + fa / st else am
def ouF (sw st fa am : Int32) : Int32 := if sw < trF st fa am then (if sw < am then nI 0 else nI 1) else nI 2
/-- a gun: score, firsts, misses, fatigue; a shot with outcome o; a whole turn; k turns -/
def shQ (o : Int32) (q : Int32 × Int32 × Int32 × Int32) : Int32 × Int32 × Int32 × Int32 := (q.1 + o, (if o = nI 2 then q.2.1 + nI 1 else q.2.1), (if o = 0 then q.2.2.1 + nI 1 else q.2.2.1), q.2.2.2 + (if o = nI 2 then nI 1 else nI 2))
def tuQ (sw st : Int32) (b r : Nat → Int32) (T g : Nat) (q : Int32 × Int32 × Int32 × Int32) : Int32 × Int32 × Int32 × Int32 :=
  let p := shQ (ouF sw st q.2.2.2 (amF b r T g)) q
  (p.1, p.2.1, p.2.2.1, if T % 5 = 4 then maxF (nI 0) (p.2.2.2 - nI 3) else p.2.2.2)
def ruQ (sw st : Int32) (b r : Nat → Int32) (T g : Nat) (q : Int32 × Int32 × Int32 × Int32) : Nat → Int32 × Int32 × Int32 × Int32
  | 0 => q
  | k + 1 => tuQ sw st b r (T + k) g (ruQ sw st b r T g q k)
/-- the clay with the greatest amount, of the first k + 1 -/
def haF (b r : Nat → Int32) (s : Nat) : Nat → Nat
  | 0 => 0
  | k + 1 => if absF (angF b r s (k + 1)) ≤ absF (angF b r s (haF b r s k)) then haF b r s k else k + 1
theorem haF_le (b r : Nat → Int32) (s : Nat) : ∀ k, haF b r s k ≤ k
  | 0 => Nat.le_refl 0
  | k + 1 => by
    have h := haF_le b r s k
    unfold haF
    split <;> omega
/-- the greatest amount of the first k stands, at least x -/
def grF (b r : Nat → Int32) (x : Int32) : Nat → Int32
  | 0 => x
  | k + 1 => maxF (grF b r x k) (absF (angF b r k (haF b r k 4)))
/-- the first of those with the greatest score, of k + 1 guns -/
def leF (sc : Nat → Int32) : Nat → Nat
  | 0 => 0
  | k + 1 => if sc (k + 1) ≤ sc (leF sc k) then leF sc k else k + 1
theorem leF_le (sc : Nat → Int32) : ∀ k, leF sc k ≤ k
  | 0 => Nat.le_refl 0
  | k + 1 => by
    have h := leF_le sc k
    unfold leF
    split <;> omega
def ldF (sc : Nat → Int32) (n : Nat) : Int32 := if n = 0 then (-1) else nI (leF sc (n - 1))
/-- how many of the first k guns -/
def ctF (p : Nat → Bool) : Nat → Nat
  | 0 => 0
  | k + 1 => ctF p k + (if p k then 1 else 0)
theorem ctF_le (p : Nat → Bool) : ∀ k, ctF p k ≤ k
  | 0 => Nat.le_refl 0
  | k + 1 => by
    have h := ctF_le p k
    unfold ctF
    split <;> omega
def smF (f : Nat → Int32) : Nat → Int32
  | 0 => nI 0
  | k + 1 => smF f k + f k
/-- a function changed at the first k places -/
def pwF {α : Type} (f h : Nat → α) (k : Nat) : Nat → α := fun g => if g < k then h g else f g
theorem pwF_0 {α : Type} {f h : Nat → α} : pwF f h 0 = f := by
  funext g
  simp [pwF]
theorem pwF_at {α : Type} {f h : Nat → α} {k j : Nat} (hj : k ≤ j) : pwF f h k j = f j := if_neg (by omega)
theorem pwF_lt {α : Type} {f h : Nat → α} {k j : Nat} (hj : j < k) : pwF f h k j = h j := if_pos hj
theorem pwF_e {f h : Nat → Int32} {k : Nat} {v : Int32} (e : v = h k) : upd (pwF f h k) k v = pwF f h (k + 1) := by
  funext g
  unfold upd pwF
  by_cases e1 : g = k
  · subst e1; simp [e]
  · by_cases e2 : g < k
    · simp [e1, e2, Nat.lt_succ_of_lt e2]
    · simp [e1, e2, show ¬ g < k + 1 by omega]
theorem pwF_s {f h : Nat → Int32} {k : Nat} : upd (pwF f h k) k (h k) = pwF f h (k + 1) := pwF_e rfl
theorem pwF_k {α : Type} {f h : Nat → α} {k : Nat} (e : f k = h k) : pwF f h k = pwF f h (k + 1) := by
  funext g
  unfold pwF
  by_cases e1 : g = k
  · subst e1; simp [e]
  · by_cases e2 : g < k
    · simp [e2, Nat.lt_succ_of_lt e2]
    · simp [e2, show ¬ g < k + 1 by omega]
/-- booleans in arrays -/
def bN (b : Bool) : Int32 := if b = true then nI 1 else nI 0
def bI (p : Nat → Bool) : Nat → Int32 := fun g => bN (p g)
def updB (p : Nat → Bool) (k : Nat) (b : Bool) : Nat → Bool := fun j => if j = k then b else p j
theorem bI_upd {p : Nat → Bool} {k : Nat} {b : Bool} : upd (bI p) k (bN b) = bI (updB p k b) := by
  funext j
  unfold upd bI updB
  by_cases h : j = k <;> simp [h]
theorem bI_pw {p h : Nat → Bool} {k : Nat} {b : Bool} (e : b = h k) : upd (bI (pwF p h k)) k (bN b) = bI (pwF p h (k + 1)) := by
  funext g
  unfold upd bI pwF
  by_cases e1 : g = k
  · subst e1; simp [e]
  · by_cases e2 : g < k
    · simp [e1, e2, Nat.lt_succ_of_lt e2]
    · simp [e1, e2, show ¬ g < k + 1 by omega]
theorem nar_b {b : Bool} : vp_nar .boolean (bN b) = bN b := by cases b <;> rfl
theorem narr_b {b : Bool} : narrow .boolean (.int (bN b)) = .int (bN b) := by cases b <;> rfl
/-- a squad -/
abbrev wS (a : Nat → Nat) (cI cZ : ClassId) (sw st fa sc fi mi : Nat → Int32) (lf hi : Nat → Bool) (n : Nat) : va_W := [(a 0, .inr (0, [.ref (a 1), .ref (a 2), .ref (a 3), .ref (a 4), .ref (a 5), .ref (a 6), .ref (a 7), .ref (a 8), .int (nI n)])), (a 1, .inl (cI, 6, .inl sw)), (a 2, .inl (cI, 6, .inl st)), (a 3, .inl (cI, 6, .inl fa)), (a 4, .inl (cI, 6, .inl sc)), (a 5, .inl (cI, 6, .inl fi)), (a 6, .inl (cI, 6, .inl mi)), (a 7, .inl (cZ, 6, .inl (bI lf))), (a 8, .inl (cZ, 6, .inl (bI hi)))]
section ZB
variable {p : Program} {l : Launch} {e : Env} {R : Room} {s : State} {m : MethodId} {args : Array Value} {below : List Frame} {meth : Method} {c : Code} {cc : ByteArray} {nL : Nat} {own : String} {G : va_G} {tys : List (ClassId × FieldType)} {A : Nat → Prop} {cells slots : Nat} {Q : State → Prop}
variable {ws : va_W} {lv : List (Nat × Value)} {pc n : Nat} {rest : List Value}
theorem z_if_eq_b (hC : Cx p s m args c cc nL own G tys A) (b : Bool) {x : Int32} (hx : x = bN b) {off : Int} {tgt : Nat} (hdg : decode cc pc = .ok (.ifCond .eq off, 3)) (ht : (pc : Int) + off = (tgt : Int)) (hn : pc + 3 = n) (kt : b = false → ZZ p l e R s m args below meth c G A nL cells slots Q ws lv tgt rest) (kf : b = true → ZZ p l e R s m args below meth c G A nL cells slots Q ws lv n rest) : ZZ p l e R s m args below meth c G A nL cells slots Q ws lv pc (.int x :: rest) := by
  subst hx
  cases b
  · exact z_if_eq hC hdg ht hn (fun _ => kt rfl) (fun h => absurd rfl h)
  · exact z_if_eq hC hdg ht hn (fun h => absurd h (by decide)) (fun _ => kf rfl)
theorem z_if_ne_b (hC : Cx p s m args c cc nL own G tys A) (b : Bool) {x : Int32} (hx : x = bN b) {off : Int} {tgt : Nat} (hdg : decode cc pc = .ok (.ifCond .ne off, 3)) (ht : (pc : Int) + off = (tgt : Int)) (hn : pc + 3 = n) (kt : b = true → ZZ p l e R s m args below meth c G A nL cells slots Q ws lv tgt rest) (kf : b = false → ZZ p l e R s m args below meth c G A nL cells slots Q ws lv n rest) : ZZ p l e R s m args below meth c G A nL cells slots Q ws lv pc (.int x :: rest) := by
  subst hx
  cases b
  · exact z_if_ne hC hdg ht hn (fun h => absurd rfl h) (fun _ => kf rfl)
  · exact z_if_ne hC hdg ht hn (fun _ => kt rfl) (fun h => absurd h (by decide))
end ZB
theorem xor_nI (a b : Nat) : nI a ^^^ nI b = nI (a ^^^ b) := Int32.toBitVec_inj.mp (by
  show BitVec.ofNat 32 a ^^^ BitVec.ofNat 32 b = BitVec.ofNat 32 (a ^^^ b)
  exact (BitVec.ofNat_xor).symm)
theorem ne0_1 {x : Int32} (h : nI 1 ≤ x) : ¬ x = 0 := by
  rintro rfl
  exact absurd h (by decide)
theorem nI_m1 {n : Nat} (h : n < 2 ^ 31) : ¬ nI n = (-1) := by
  intro e
  have h1 := nI_toInt h
  rw [e] at h1
  have h2 : (-1 : Int32).toInt = -1 := by decide
  omega
theorem ldF_0 {sc : Nat → Int32} {n : Nat} (h : n = 0) : ldF sc n = (-1) := if_pos h
theorem ldF_pos {sc : Nat → Int32} {n : Nat} (h : 0 < n) : ldF sc n = nI (leF sc (n - 1)) := if_neg (by omega)
theorem ldF_keep {sc : Nat → Int32} {i : Nat} (h : 0 < i) (c : sc i ≤ sc (leF sc (i - 1))) : ldF sc (i + 1) = nI (leF sc (i - 1)) := by
  obtain ⟨k, rfl⟩ : ∃ k, i = k + 1 := ⟨i - 1, by omega⟩
  rw [ldF_pos (Nat.succ_pos _)]
  show nI (leF sc (k + 1)) = nI (leF sc k)
  rw [show leF sc (k + 1) = leF sc k from if_pos c]
theorem ldF_take {sc : Nat → Int32} {i : Nat} (h : 0 < i) (c : ¬ sc i ≤ sc (leF sc (i - 1))) : ldF sc (i + 1) = nI i := by
  obtain ⟨k, rfl⟩ : ∃ k, i = k + 1 := ⟨i - 1, by omega⟩
  rw [ldF_pos (Nat.succ_pos _)]
  show nI (leF sc (k + 1)) = nI (k + 1)
  rw [show leF sc (k + 1) = k + 1 from if_neg c]
theorem ldF_1 {sc : Nat → Int32} {i : Nat} (h : i = 0) : ldF sc (i + 1) = nI i := by
  subst h
  rfl
/-- k turns of the guns alone: score, firsts, misses, fatigue of the gun g -/
def plS (sw st b r sc fi mi fa : Nat → Int32) (T k : Nat) : Nat → Int32 := fun g => (ruQ (sw g) (st g) b r T g (sc g, fi g, mi g, fa g) k).1
def plF (sw st b r sc fi mi fa : Nat → Int32) (T k : Nat) : Nat → Int32 := fun g => (ruQ (sw g) (st g) b r T g (sc g, fi g, mi g, fa g) k).2.1
def plM (sw st b r sc fi mi fa : Nat → Int32) (T k : Nat) : Nat → Int32 := fun g => (ruQ (sw g) (st g) b r T g (sc g, fi g, mi g, fa g) k).2.2.1
def plA (sw st b r sc fi mi fa : Nat → Int32) (T k : Nat) : Nat → Int32 := fun g => (ruQ (sw g) (st g) b r T g (sc g, fi g, mi g, fa g) k).2.2.2
/-- a shoot-off's round: who hits; whether some do; who is left; the fatigues -/
def htB (sw st fa : Nat → Int32) (lf : Nat → Bool) (am : Int32) : Nat → Bool := fun g => lf g && !decide (sw g < trF (st g) (fa g) am)
def anB (h : Nat → Bool) : Nat → Bool
  | 0 => false
  | k + 1 => anB h k || h k
def upA (fa : Nat → Int32) (lf : Nat → Bool) : Nat → Int32 := fun g => if lf g = true then fa g + nI 1 else fa g
def soL (sw st fa : Nat → Int32) (lf : Nat → Bool) (n : Nat) (am : Int32) : Nat → Bool := if anB (htB sw st fa lf am) n = true then pwF lf (htB sw st fa lf am) n else lf
/-- at most m rounds, from round k on -/
def soF (sw st : Nat → Int32) (n : Nat) : Nat → Nat → (Nat → Bool) → (Nat → Int32) → (Nat → Bool) × (Nat → Int32)
  | 0, _, lf, fa => (lf, fa)
  | m + 1, k, lf, fa => if ctF lf n ≤ 1 then (lf, fa) else soF sw st n m (k + 1) (soL sw st fa lf n (nI (6 * k))) (pwF fa (upA fa lf) n)
/-- the first of n, or n -/
def fiN (p : Nat → Bool) : Nat → Nat
  | 0 => 0
  | k + 1 => if fiN p k < k then fiN p k else if p k = true then k else k + 1
theorem fiN_no {p : Nat → Bool} : ∀ {n : Nat}, (∀ g, g < n → p g = false) → fiN p n = n
  | 0, _ => rfl
  | n + 1, h => by
    have h1 : fiN p n = n := fiN_no (fun g hg => h g (by omega))
    simp [fiN, h1, h n (by omega)]
theorem fiN_yes {p : Nat → Bool} {i : Nat} (h : ∀ g, g < i → p g = false) (hi : p i = true) : ∀ {n : Nat}, i < n → fiN p n = i
  | 0, hn => absurd hn (Nat.not_lt_zero _)
  | n + 1, hn => by
    by_cases e : i = n
    · subst e
      simp [fiN, fiN_no h, hi]
    · have h1 : fiN p n = i := fiN_yes h hi (by omega)
      simp [fiN, h1, show i < n by omega]
theorem fiN_lt {p : Nat → Bool} {g n : Nat} (hg : g < n) (h : p g = true) : fiN p n < n := by
  induction n with
  | zero => exact absurd hg (Nat.not_lt_zero _)
  | succ n ih =>
    unfold fiN
    by_cases e : g = n
    · subst e
      by_cases e2 : fiN p g < g
      · rw [if_pos e2]; omega
      · rw [if_neg e2, if_pos h]; omega
    · have := ih (by omega)
      rw [if_pos this]; omega
theorem fiN_at {p : Nat → Bool} {n : Nat} (h : fiN p n < n) : p (fiN p n) = true := by
  induction n with
  | zero => exact absurd h (Nat.not_lt_zero _)
  | succ n ih =>
    unfold fiN at h ⊢
    by_cases e : fiN p n < n
    · rw [if_pos e]; exact ih e
    · rw [if_neg e] at h ⊢
      by_cases e2 : p n = true
      · rw [if_pos e2]; exact e2
      · rw [if_neg e2] at h; omega
def fsF (p : Nat → Bool) (n : Nat) : Int32 := if fiN p n < n then nI (fiN p n) else (-1)
theorem anB_of {h : Nat → Bool} {g n : Nat} (hg : g < n) (e : h g = true) : anB h n = true := by
  induction n with
  | zero => exact absurd hg (Nat.not_lt_zero _)
  | succ n ih =>
    unfold anB
    by_cases e2 : g = n
    · subst e2; simp [e]
    · simp [ih (by omega)]
theorem anB_ex {h : Nat → Bool} {n : Nat} (e : anB h n = true) : ∃ g, g < n ∧ h g = true := by
  induction n with
  | zero => cases e
  | succ n ih =>
    unfold anB at e
    rcases Bool.or_eq_true _ _ ▸ e with e | e
    · obtain ⟨g, h1, h2⟩ := ih e
      exact ⟨g, by omega, h2⟩
    · exact ⟨n, by omega, e⟩
theorem anB_cong {h h' : Nat → Bool} : ∀ {n : Nat}, (∀ g, g < n → h g = h' g) → anB h n = anB h' n
  | 0, _ => rfl
  | n + 1, e => by rw [anB, anB, anB_cong (fun g hg => e g (by omega)), e n (by omega)]
theorem ctF_cong {h h' : Nat → Bool} : ∀ {n : Nat}, (∀ g, g < n → h g = h' g) → ctF h n = ctF h' n
  | 0, _ => rfl
  | n + 1, e => by rw [ctF, ctF, ctF_cong (fun g hg => e g (by omega)), e n (by omega)]
theorem fiN_cong {h h' : Nat → Bool} : ∀ {n : Nat}, (∀ g, g < n → h g = h' g) → fiN h n = fiN h' n
  | 0, _ => rfl
  | n + 1, e => by rw [fiN, fiN, fiN_cong (fun g hg => e g (by omega)), e n (by omega)]
theorem soL_cong {sw st fa : Nat → Int32} {lf lf' : Nat → Bool} {n : Nat} {am : Int32} (e : ∀ g, g < n → lf g = lf' g) : ∀ g, g < n → soL sw st fa lf n am g = soL sw st fa lf' n am g := by
  intro g hg
  have h1 : ∀ g, g < n → htB sw st fa lf am g = htB sw st fa lf' am g := fun g hg => by unfold htB; rw [e g hg]
  unfold soL
  rw [anB_cong h1]
  split
  · rw [pwF_lt hg, pwF_lt hg, h1 g hg]
  · exact e g hg
theorem soF_cong {sw st : Nat → Int32} {n : Nat} : ∀ (m k : Nat) (lf lf' : Nat → Bool) (fa : Nat → Int32), (∀ g, g < n → lf g = lf' g) → (∀ g, g < n → (soF sw st n m k lf fa).1 g = (soF sw st n m k lf' fa).1 g) ∧ (soF sw st n m k lf fa).2 = (soF sw st n m k lf' fa).2
  | 0, k, lf, lf', fa, e => ⟨e, rfl⟩
  | m + 1, k, lf, lf', fa, e => by
    unfold soF
    rw [ctF_cong e]
    split
    · exact ⟨e, rfl⟩
    · have h2 : pwF fa (upA fa lf) n = pwF fa (upA fa lf') n := by
        funext g
        unfold pwF
        by_cases hg : g < n
        · rw [if_pos hg, if_pos hg]; unfold upA; rw [e g hg]
        · rw [if_neg hg, if_neg hg]
      rw [h2]
      exact soF_cong m (k + 1) _ _ _ (soL_cong e)
theorem soL_some {sw st fa : Nat → Int32} {lf : Nat → Bool} {n : Nat} {am : Int32} (h : ∃ g, g < n ∧ lf g = true) : ∃ g, g < n ∧ soL sw st fa lf n am g = true := by
  unfold soL
  split
  · rename_i hh
    obtain ⟨g, h1, h2⟩ := anB_ex hh
    exact ⟨g, h1, by rw [pwF_lt h1]; exact h2⟩
  · exact h
theorem soF_some {sw st : Nat → Int32} {n : Nat} : ∀ (m k : Nat) (lf : Nat → Bool) (fa : Nat → Int32), (∃ g, g < n ∧ lf g = true) → ∃ g, g < n ∧ (soF sw st n m k lf fa).1 g = true
  | 0, k, lf, fa, h => h
  | m + 1, k, lf, fa, h => by
    unfold soF
    split
    · exact h
    · exact soF_some m (k + 1) _ _ (soL_some h)
/-- who has the greatest score; who wins; the fatigues behind -/
def beB (sc : Nat → Int32) (n : Nat) : Nat → Bool := fun g => decide (sc g = sc (leF sc (n - 1)))
def wnF (sw st sc fa : Nat → Int32) (n : Nat) : Nat := fiN (soF sw st n 9 1 (beB sc n) fa).1 n
def waF (sw st sc fa : Nat → Int32) (n : Nat) : Nat → Int32 := (soF sw st n 9 1 (beB sc n) fa).2
theorem beB_some {sc : Nat → Int32} {n : Nat} (hn : 0 < n) : ∃ g, g < n ∧ beB sc n g = true := ⟨leF sc (n - 1), by have := leF_le sc (n - 1); omega, by simp [beB]⟩
theorem wnF_lt {sw st sc fa : Nat → Int32} {n : Nat} (hn : 0 < n) : wnF sw st sc fa n < n := by
  obtain ⟨g, h1, h2⟩ := soF_some (sw := sw) (st := st) 9 1 (beB sc n) fa (beB_some hn)
  exact fiN_lt h1 h2
theorem pwF_pw {α : Type} {f g h : Nat → α} {n : Nat} : pwF f (pwF g h n) n = pwF f h n := by
  funext j
  unfold pwF
  by_cases e : j < n <;> simp [e]
theorem no_step {p : Nat → Bool} {i : Nat} (h : ∀ g, g < i → p g = false) (c : p i = false) : ∀ g, g < i + 1 → p g = false := by
  intro g hg
  by_cases e : g = i
  · rw [e]; exact c
  · exact h g (by omega)
theorem so_stop {sw st : Nat → Int32} {n k : Nat} {lf : Nat → Bool} {fa : Nat → Int32} {X : (Nat → Bool) × (Nat → Int32)} (hk : k < 10) (hu : soF sw st n (10 - k) k lf fa = X) (c : ctF lf n ≤ 1) : X = (lf, fa) := by
  rw [show 10 - k = (9 - k) + 1 by omega] at hu
  unfold soF at hu
  rw [if_pos c] at hu
  exact hu.symm
theorem so_go {sw st : Nat → Int32} {n k : Nat} {lf : Nat → Bool} {fa : Nat → Int32} {X : (Nat → Bool) × (Nat → Int32)} (hk : k < 10) (hu : soF sw st n (10 - k) k lf fa = X) (c : 1 < ctF lf n) : soF sw st n (10 - (k + 1)) (k + 1) (soL sw st fa lf n (nI (6 * k))) (pwF fa (upA fa lf) n) = X := by
  rw [show 10 - k = (10 - (k + 1)) + 1 by omega] at hu
  unfold soF at hu
  rw [if_neg (by omega)] at hu
  exact hu
theorem so_end {sw st sc fa : Nat → Int32} {n : Nat} {lf lf1 : Nat → Bool} {fa1 : Nat → Int32} (hn : 0 < n) (h : soF sw st n 9 1 (pwF lf (beB sc n) n) fa = (lf1, fa1)) : fsF lf1 n = nI (wnF sw st sc fa n) ∧ fa1 = waF sw st sc fa n := by
  obtain ⟨h1, h2⟩ := soF_cong (sw := sw) (st := st) (n := n) 9 1 (pwF lf (beB sc n) n) (beB sc n) fa (fun g hg => pwF_lt hg)
  rw [h] at h1 h2
  have e : fiN lf1 n = wnF sw st sc fa n := fiN_cong h1
  refine ⟨?_, h2⟩
  unfold fsF
  rw [e, if_pos (wnF_lt hn)]
/-- in how many turns, of 100 (p: a miss that many turns ahead) -/
def umF (p : Nat → Bool) (n : Nat) : Int32 := if fiN p n < n then nI (fiN p n + 1) else (-1)
def miB (sw b r : Nat → Int32) (T g : Nat) : Nat → Bool := fun i => decide (¬ amF b r (T + i) g ≤ sw g)
/-- the score behind 25 turns with a rest behind j -/
def reF (sw st b r sc fi mi fa : Nat → Int32) (T g j : Nat) : Int32 :=
  (ruQ (sw g) (st g) b r (T + j) g ((ruQ (sw g) (st g) b r T g (sc g, fi g, mi g, fa g) j).1, (ruQ (sw g) (st g) b r T g (sc g, fi g, mi g, fa g) j).2.1, (ruQ (sw g) (st g) b r T g (sc g, fi g, mi g, fa g) j).2.2.1, nI 0) (25 - j)).1
def brF (f : Nat → Int32) : Nat → Nat
  | 0 => 0
  | k + 1 => if f (k + 1) ≤ f (brF f k) then brF f k else k + 1
theorem brF_le (f : Nat → Int32) : ∀ k, brF f k ≤ k
  | 0 => Nat.le_refl 0
  | k + 1 => by
    have h := brF_le f k
    unfold brF
    split <;> omega
def swF (b r : Nat → Int32) : Int32 := if maxF (nI 5) (grF b r (nI 0) 5) ≤ nI 60 then maxF (nI 5) (grF b r (nI 0) 5) else (-1)
def meF (sc : Nat → Int32) (n : Nat) : UInt64 := if n = 0 then FP.dconst0 else FP.ddiv (FP.i2d (smF sc n)) (FP.i2d (nI n))
def wwF (sw st sc fa : Nat → Int32) (n : Nat) : Int32 := if n = 0 then (-1) else nI (wnF sw st sc fa n)
theorem leF_cong {sc sc' : Nat → Int32} : ∀ {k : Nat}, (∀ g, g ≤ k → sc g = sc' g) → leF sc k = leF sc' k
  | 0, _ => rfl
  | k + 1, e => by
    have h := leF_le sc' k
    rw [leF, leF, leF_cong (fun g hg => e g (by omega)), e (k + 1) (Nat.le_refl _), e (leF sc' k) (by omega)]
theorem ldF_cong {sc sc' : Nat → Int32} {n : Nat} (e : ∀ g, g < n → sc g = sc' g) : ldF sc n = ldF sc' n := by
  unfold ldF
  split
  · rfl
  · rw [leF_cong (fun g hg => e g (by omega))]
theorem beB_cong {sc sc' : Nat → Int32} {n : Nat} (e : ∀ g, g < n → sc g = sc' g) : ∀ g, g < n → beB sc n g = beB sc' n g := by
  intro g hg
  have h := leF_le sc' (n - 1)
  unfold beB
  rw [leF_cong (sc' := sc') (fun j hj => e j (by omega)), e g hg, e (leF sc' (n - 1)) (by omega)]
theorem htB_cong {sw sw' st st' fa fa' : Nat → Int32} {lf lf' : Nat → Bool} {n : Nat} {am : Int32} (h1 : ∀ g, g < n → sw g = sw' g) (h2 : ∀ g, g < n → st g = st' g) (h3 : ∀ g, g < n → fa g = fa' g) (h4 : ∀ g, g < n → lf g = lf' g) : ∀ g, g < n → htB sw st fa lf am g = htB sw' st' fa' lf' am g := by
  intro g hg
  unfold htB
  rw [h1 g hg, h2 g hg, h3 g hg, h4 g hg]
theorem soF_congA {sw sw' st st' : Nat → Int32} {n : Nat} (h1 : ∀ g, g < n → sw g = sw' g) (h2 : ∀ g, g < n → st g = st' g) : ∀ (m k : Nat) (lf lf' : Nat → Bool) (fa fa' : Nat → Int32), (∀ g, g < n → fa g = fa' g) → (∀ g, g < n → lf g = lf' g) → ∀ g, g < n → (soF sw st n m k lf fa).1 g = (soF sw' st' n m k lf' fa').1 g
  | 0, k, lf, lf', fa, fa', h3, h4, g, hg => h4 g hg
  | m + 1, k, lf, lf', fa, fa', h3, h4, g, hg => by
    unfold soF
    rw [ctF_cong h4]
    split
    · exact h4 g hg
    · refine soF_congA h1 h2 m (k + 1) _ _ _ _ (fun j hj => ?_) (fun j hj => ?_) g hg
      · rw [pwF_lt hj, pwF_lt hj]; unfold upA; rw [h4 j hj, h3 j hj]
      · unfold soL
        rw [anB_cong (htB_cong h1 h2 h3 h4)]
        split
        · rw [pwF_lt hj, pwF_lt hj]; exact htB_cong h1 h2 h3 h4 j hj
        · exact h4 j hj
theorem wnF_cong {sw sw' st st' sc sc' fa fa' : Nat → Int32} {n : Nat} (h1 : ∀ g, g < n → sw g = sw' g) (h2 : ∀ g, g < n → st g = st' g) (h3 : ∀ g, g < n → sc g = sc' g) (h4 : ∀ g, g < n → fa g = fa' g) : wnF sw st sc fa n = wnF sw' st' sc' fa' n :=
  fiN_cong (soF_congA h1 h2 9 1 _ _ _ _ h4 (beB_cong h3))
theorem nnan (x : Int32) {n : Nat} (h0 : 0 < n) (h : n ≤ 6) : vf_n64 (FP.ddiv (FP.i2d x) (FP.i2d (nI n))) := by
  have h1 : FP.Core.dIsNaN (FP.Core.ddiv (FP.Core.i2d x) (FP.Core.i2d (nI n))) = false := FP.Core.ddiv_out (FP.Core.i2d_fin x).notNaN (FP.Core.i2d_fin _) (fun hz => FP.Core.i2d_ne_zero (nI_ne0 h0 (by omega)) ((FP.Core.zero_bits2 _).mp hz))
  have h2 : ¬ 9218868437227405312 < (FP.Core.ddiv (FP.Core.i2d x) (FP.Core.i2d (nI n))).toNat % 2 ^ 63 := fun hh => by
    rw [(FP.Core.isNaN_bits _).mpr hh] at h1
    cases h1
  show (FP.Core.ddiv (FP.Core.i2d x) (FP.Core.i2d (nI n))) &&& 0x7fffffffffffffff ≤ 0x7ff0000000000000
  rw [UInt64.le_iff_toNat_le, UInt64.toNat_and, show (0x7fffffffffffffff : UInt64).toNat = 2 ^ 63 - 1 from rfl, Nat.and_two_pow_sub_one_eq_mod]
  show _ ≤ 9218868437227405312
  omega
end
section
set_option maxRecDepth 100000 in
set_option maxHeartbeats 4000000 in
/-- floorMod of two that are not negative -/
theorem k_J9_floorMod_7cf53 (l : Launch) (G : va_G) (cI cZ cJ : ClassId) (x : Nat) (d : Nat) (hx : x < 2 ^ 31) (hd0 : 0 < d) (hd : d < 2 ^ 31) : MI (Unit) l yJ9_floorMod_7cf53 cJ9_floorMod_7cf53 3 0 0 G (tY cI cZ cJ) [.int (nI x), .int (nI d)] ([]) (fun zr _ => zr = nI (x % d)) (fun _ => []) 0 0 := by
  refine zMI_ofF (by decide +kernel) (Nat.le_of_ble_eq_true rfl) [(0, .int (nI x)), (1, .int (nI d))] rfl ?_
  intro p e s m below meth c hC hr hlocks hname
  have hC : Cx p s m _ c cJ9_floorMod_7cf53 3 RJ9 G (tY cI cZ cJ) _ := hC
  refine z_iload_n (n := 1) hC dJ9_floorMod_7cf53_0 rfl 0 rfl rfl ?_
  refine z_iload_n (n := 2) hC dJ9_floorMod_7cf53_1 rfl 1 rfl rfl ?_
  refine z_irem (v := nI (x % d)) (n := 3) hC dJ9_floorMod_7cf53_2 (nI_ne0 hd0 hd) (pk_rem hx hd0 hd) rfl ?_
  refine z_istore_n (lv' := [(2, .int (nI (x % d))), (0, .int (nI x)), (1, .int (nI d))]) (n := 4) hC dJ9_floorMod_7cf53_3 rfl (by decide) rfl rfl ?_
  refine z_iload_n (n := 5) hC dJ9_floorMod_7cf53_4 rfl 1 rfl rfl ?_
  refine z_iload_n (n := 6) hC dJ9_floorMod_7cf53_5 rfl 2 rfl rfl ?_
  refine z_ixor (v := nI (x ^^^ d)) (n := 7) hC dJ9_floorMod_7cf53_6 (xor_nI x d) rfl ?_
  refine z_if_ge (tgt := 18) (n := 10) hC dJ9_floorMod_7cf53_7 (by decide) rfl (fun c1 => ?_) (fun c1 => absurd (nI_pos' (Nat.xor_lt_two_pow hx hd)) c1)
  refine z_iload_n (n := 19) hC dJ9_floorMod_7cf53_18 rfl 0 rfl rfl ?_
  refine z_iret hC hr hlocks () ?_ rfl dJ9_floorMod_7cf53_19 (by omega) (by omega)
  rfl

set_option maxRecDepth 100000 in
set_option maxHeartbeats 4000000 in
/-- the clay of a turn -/
theorem k_X2_clayIn (l : Launch) (G : va_G) (cI cZ cJ : ClassId) (T : Nat) (hT : T < 2 ^ 30) : MI (Unit) l yX2_clayIn cX2_clayIn 1 1 22 G (tY cI cZ cJ) [.int (nI T)] ([]) (fun zr _ => zr = nI (T % 5)) (fun _ => []) 0 0 := by
  refine MI_of (by decide) (Nat.le_of_ble_eq_true rfl) [(0, .int (nI T))] rfl ?_
  intro p e s m below meth c hC hr hlocks hname
  have hC : Cx p s m _ c cX2_clayIn 1 RX2 G (tY cI cZ cJ) _ := hC
  refine z_iload_n (n := 1) hC dX2_clayIn_0 rfl 0 rfl rfl ?_
  refine z_iconst (v := nI 5) (n := 2) hC dX2_clayIn_1 (by decide) rfl ?_
  refine z_callsi (R := { frames := 1, cells := 0, slots := 0, locals := 22 }) (cells := 0) (slots := 0) (ws := []) (n := 5) (As := [.int (nI T), .int (nI 5)]) (rest := []) hC (k_J9_floorMod_7cf53 l G cI cZ cJ T 5 (by omega) (by omega) (by omega)) kg_X2_217 kd_yJ9_floorMod_7cf53 dX2_clayIn_2 ⟨Nat.le_of_ble_eq_true rfl, Nat.le_of_ble_eq_true rfl⟩ [] rfl (by decide) rfl (Nat.le_of_ble_eq_true rfl) ⟨Nat.le_of_ble_eq_true rfl, Nat.le_of_ble_eq_true rfl⟩ (ws2 := fun u1 => []) [] (fun _ => rfl) ([]) (fun _ => rfl) rfl (fun _ => rfl) [] (fun _ => rfl) rfl rfl rfl (fun r2 u1 h3 => ?_)
  subst h3
  refine z_iret hC hr hlocks () ?_ rfl dX2_clayIn_5 (by omega) (by omega)
  rfl

set_option maxRecDepth 100000 in
set_option maxHeartbeats 4000000 in
/-- the stand of a gun in a turn -/
theorem k_X2_standIn (l : Launch) (G : va_G) (cI cZ cJ : ClassId) (T : Nat) (g : Nat) (hT : T < 2 ^ 30) (hg : g < 6) : MI (Unit) l yX2_standIn cX2_standIn 2 1 22 G (tY cI cZ cJ) [.int (nI T), .int (nI g)] ([]) (fun zr _ => zr = nI (stF T g)) (fun _ => []) 0 0 := by
  refine MI_of (by decide) (Nat.le_of_ble_eq_true rfl) [(0, .int (nI T)), (1, .int (nI g))] rfl ?_
  intro p e s m below meth c hC hr hlocks hname
  have hC : Cx p s m _ c cX2_standIn 2 RX2 G (tY cI cZ cJ) _ := hC
  refine z_iload_n (n := 1) hC dX2_standIn_0 rfl 1 rfl rfl ?_
  refine z_iload_n (n := 2) hC dX2_standIn_1 rfl 0 rfl rfl ?_
  refine z_iconst (v := nI 5) (n := 3) hC dX2_standIn_2 (by decide) rfl ?_
  refine z_idiv (v := nI (T / 5)) (n := 4) hC dX2_standIn_3 (by decide) (pk_div (by omega) (by omega) (by omega)) rfl ?_
  refine z_iadd (v := nI (g + T / 5)) (n := 5) hC dX2_standIn_4 (nI_add g (T / 5)) rfl ?_
  refine z_iconst (v := nI 5) (n := 6) hC dX2_standIn_5 (by decide) rfl ?_
  refine z_callsi (R := { frames := 1, cells := 0, slots := 0, locals := 22 }) (cells := 0) (slots := 0) (ws := []) (n := 9) (As := [.int (nI (g + T / 5)), .int (nI 5)]) (rest := []) hC (k_J9_floorMod_7cf53 l G cI cZ cJ (g + T / 5) 5 (by omega) (by omega) (by omega)) kg_X2_217 kd_yJ9_floorMod_7cf53 dX2_standIn_6 ⟨Nat.le_of_ble_eq_true rfl, Nat.le_of_ble_eq_true rfl⟩ [] rfl (by decide) rfl (Nat.le_of_ble_eq_true rfl) ⟨Nat.le_of_ble_eq_true rfl, Nat.le_of_ble_eq_true rfl⟩ (ws2 := fun u1 => []) [] (fun _ => rfl) ([]) (fun _ => rfl) rfl (fun _ => rfl) [] (fun _ => rfl) rfl rfl rfl (fun r2 u1 h3 => ?_)
  subst h3
  refine z_iret hC hr hlocks () ?_ rfl dX2_standIn_9 (by omega) (by omega)
  rfl

set_option maxRecDepth 100000 in
set_option maxHeartbeats 4000000 in
/-- the angle of a clay at a stand -/
theorem k_X1_angleAt (l : Launch) (G : va_G) (cI cZ cJ : ClassId) (a : Nat → Nat) (b : Nat → Int32) (r : Nat → Int32) (s0 : Nat) (c0 : Nat) (hs : s0 < 5) : MI (Unit) l yX1_angleAt cX1_angleAt 3 0 0 G (tY cI cZ cJ) [.ref (a 0), .int (nI s0), .int (nI c0)] (wT a cI b r) (fun zr _ => zr = angF b r s0 c0) (fun _ => wT a cI b r) 0 0 := by
  refine MI_of (by decide) (Nat.le_of_ble_eq_true rfl) [(0, .ref (a 0)), (1, .int (nI s0)), (2, .int (nI c0))] rfl ?_
  intro p e s m below meth c hC hr hlocks hname
  have hC : Cx p s m _ c cX1_angleAt 3 RX1 G (tY cI cZ cJ) _ := hC
  refine z_aload_n (n := 1) hC dX1_angleAt_0 rfl 0 rfl rfl ?_
  refine gf_X1_9 (v := .ref (a 1)) (n := 4) hC 0 rfl rfl dX1_angleAt_1 rfl ?_
  refine z_iload_n (n := 5) hC dX1_angleAt_4 rfl 1 rfl rfl ?_
  refine z_iald (v := b s0) (n := 6) hC 1 0 s0 rfl rfl rfl (by omega) (by decide) dX1_angleAt_5 rfl rfl ?_
  refine z_aload_n (n := 7) hC dX1_angleAt_6 rfl 0 rfl rfl ?_
  refine gf_X1_15 (v := .ref (a 2)) (n := 10) hC 0 rfl rfl dX1_angleAt_7 rfl ?_
  refine z_iload_n (n := 11) hC dX1_angleAt_10 rfl 1 rfl rfl ?_
  refine z_iald (v := r s0) (n := 12) hC 2 0 s0 rfl rfl rfl (by omega) (by decide) dX1_angleAt_11 rfl rfl ?_
  refine z_iload_n (n := 13) hC dX1_angleAt_12 rfl 2 rfl rfl ?_
  refine z_iconst (v := nI 2) (n := 14) hC dX1_angleAt_13 (by decide) rfl ?_
  refine z_isub (v := (nI c0) - (nI 2)) (n := 15) hC dX1_angleAt_14 rfl rfl ?_
  refine z_imul (v := (r s0) * ((nI c0) - (nI 2))) (n := 16) hC dX1_angleAt_15 rfl rfl ?_
  refine z_iconst (v := nI 2) (n := 17) hC dX1_angleAt_16 (by decide) rfl ?_
  refine z_idiv (v := ((r s0) * ((nI c0) - (nI 2))) / (nI 2)) (n := 18) hC dX1_angleAt_17 (by decide) rfl rfl ?_
  refine z_iadd (v := (b s0) + (((r s0) * ((nI c0) - (nI 2))) / (nI 2))) (n := 19) hC dX1_angleAt_18 rfl rfl ?_
  refine z_iret hC hr hlocks () ?_ rfl dX1_angleAt_19 (by omega) (by omega)
  rfl

set_option maxRecDepth 100000 in
set_option maxHeartbeats 4000000 in
theorem k_X1_angleIn (l : Launch) (G : va_G) (cI cZ cJ : ClassId) (a : Nat → Nat) (b : Nat → Int32) (r : Nat → Int32) (T : Nat) (g : Nat) (hT : T < 2 ^ 30) (hg : g < 6) : MI (Unit) l yX1_angleIn cX1_angleIn 3 2 43 G (tY cI cZ cJ) [.ref (a 0), .int (nI T), .int (nI g)] (wT a cI b r) (fun zr _ => zr = angF b r (stF T g) (T % 5)) (fun _ => wT a cI b r) 0 0 := by
  refine MI_of (by decide) (Nat.le_of_ble_eq_true rfl) [(0, .ref (a 0)), (1, .int (nI T)), (2, .int (nI g))] rfl ?_
  intro p e s m below meth c hC hr hlocks hname
  have hC : Cx p s m _ c cX1_angleIn 3 RX1 G (tY cI cZ cJ) _ := hC
  refine z_aload_n (n := 1) hC dX1_angleIn_0 rfl 0 rfl rfl ?_
  refine z_iload_n (n := 2) hC dX1_angleIn_1 rfl 1 rfl rfl ?_
  refine z_iload_n (n := 3) hC dX1_angleIn_2 rfl 2 rfl rfl ?_
  refine z_callsiN (R := { frames := 2, cells := 0, slots := 0, locals := 43 }) (cells := 0) (slots := 0) (ws := wT a cI b r) (n := 6) (As := [.int (nI T), .int (nI g)]) (rest := [.ref (a 0)]) hC (k_X2_standIn l G cI cZ cJ T g (by omega) (by omega)) kg_X1_18 (by simp [zNW]) q169 q57 kd_yX2_standIn dX1_angleIn_3 ⟨Nat.le_of_ble_eq_true rfl, Nat.le_of_ble_eq_true rfl⟩ [] rfl (by decide) rfl (Nat.le_of_ble_eq_true rfl) ⟨Nat.le_of_ble_eq_true rfl, Nat.le_of_ble_eq_true rfl⟩ (ws2 := fun u1 => wT a cI b r) [0, 1, 2] (fun _ => rfl) (wT a cI b r) (fun _ => rfl) rfl (fun _ => rfl) [] (fun _ => rfl) rfl rfl rfl (fun r2 u1 h3 => ?_)
  subst h3
  refine z_iload_n (n := 7) hC dX1_angleIn_6 rfl 1 rfl rfl ?_
  refine z_callsiN (R := { frames := 2, cells := 0, slots := 0, locals := 43 }) (cells := 0) (slots := 0) (ws := wT a cI b r) (n := 10) (As := [.int (nI T)]) (rest := [.int (nI (stF T g)), .ref (a 0)]) hC (k_X2_clayIn l G cI cZ cJ T (by omega)) kg_X1_22 (by simp [zNW]) q175 q57 kd_yX2_clayIn dX1_angleIn_7 ⟨Nat.le_of_ble_eq_true rfl, Nat.le_of_ble_eq_true rfl⟩ [] rfl (by decide) rfl (Nat.le_of_ble_eq_true rfl) ⟨Nat.le_of_ble_eq_true rfl, Nat.le_of_ble_eq_true rfl⟩ (ws2 := fun u4 => wT a cI b r) [0, 1, 2] (fun _ => rfl) (wT a cI b r) (fun _ => rfl) rfl (fun _ => rfl) [] (fun _ => rfl) rfl rfl rfl (fun r5 u4 h6 => ?_)
  subst h6
  refine z_calli (R := { frames := 2, cells := 0, slots := 0, locals := 43 }) (cells := 0) (slots := 0) (ws := wT a cI b r) (n := 13) (As := [.int (nI (stF T g)), .int (nI (T % 5))]) (rest := []) hC (k_X1_angleAt l G cI cZ cJ a b r (stF T g) (T % 5) (Nat.mod_lt _ (by decide))) kg_X1_26 kd_yX1_angleAt dX1_angleIn_10 ⟨Nat.le_of_ble_eq_true rfl, Nat.le_of_ble_eq_true rfl⟩ 0 rfl rfl rfl [0, 1, 2] rfl (by decide) rfl (Nat.le_of_ble_eq_true rfl) ⟨Nat.le_of_ble_eq_true rfl, Nat.le_of_ble_eq_true rfl⟩ (ws2 := fun u7 => wT a cI b r) [] (fun _ => rfl) ([]) (fun _ => rfl) rfl (fun _ => rfl) [a 0, a 1, a 2] (fun _ => rfl) rfl rfl rfl (fun r8 u7 h9 => ?_)
  subst h9
  refine z_iret hC hr hlocks () ?_ rfl dX1_angleIn_13 (by omega) (by omega)
  rfl

set_option maxRecDepth 100000 in
set_option maxHeartbeats 4000000 in
theorem k_X1_amountAt (l : Launch) (G : va_G) (cI cZ cJ : ClassId) (a : Nat → Nat) (b : Nat → Int32) (r : Nat → Int32) (s0 : Nat) (c0 : Nat) (hs : s0 < 5) : MI (Unit) l yX1_amountAt cX1_amountAt 3 1 22 G (tY cI cZ cJ) [.ref (a 0), .int (nI s0), .int (nI c0)] (wT a cI b r) (fun zr _ => zr = absF (angF b r s0 c0)) (fun _ => wT a cI b r) 0 0 := by
  refine MI_of (by decide) (Nat.le_of_ble_eq_true rfl) [(0, .ref (a 0)), (1, .int (nI s0)), (2, .int (nI c0))] rfl ?_
  intro p e s m below meth c hC hr hlocks hname
  have hC : Cx p s m _ c cX1_amountAt 3 RX1 G (tY cI cZ cJ) _ := hC
  refine z_aload_n (n := 1) hC dX1_amountAt_0 rfl 0 rfl rfl ?_
  refine z_iload_n (n := 2) hC dX1_amountAt_1 rfl 1 rfl rfl ?_
  refine z_iload_n (n := 3) hC dX1_amountAt_2 rfl 2 rfl rfl ?_
  refine z_calli (R := { frames := 1, cells := 0, slots := 0, locals := 22 }) (cells := 0) (slots := 0) (ws := wT a cI b r) (n := 6) (As := [.int (nI s0), .int (nI c0)]) (rest := []) hC (k_X1_angleAt l G cI cZ cJ a b r s0 c0 (by omega)) kg_X1_26 kd_yX1_angleAt dX1_amountAt_3 ⟨Nat.le_of_ble_eq_true rfl, Nat.le_of_ble_eq_true rfl⟩ 0 rfl rfl rfl [0, 1, 2] rfl (by decide) rfl (Nat.le_of_ble_eq_true rfl) ⟨Nat.le_of_ble_eq_true rfl, Nat.le_of_ble_eq_true rfl⟩ (ws2 := fun u1 => wT a cI b r) [] (fun _ => rfl) ([]) (fun _ => rfl) rfl (fun _ => rfl) [a 0, a 1, a 2] (fun _ => rfl) rfl rfl rfl (fun r2 u1 h3 => ?_)
  subst h3
  refine z_mabs (v := absF (angF b r s0 c0)) (n := 9) hC q180 q637 q173 q639 (by decide) (Nat.le_of_ble_eq_true rfl) (by omega) (by omega) dX1_amountAt_6 rfl rfl ?_
  refine z_iret hC hr hlocks () ?_ rfl dX1_amountAt_9 (by omega) (by omega)
  rfl

set_option maxRecDepth 100000 in
set_option maxHeartbeats 4000000 in
theorem k_X1_amountIn (l : Launch) (G : va_G) (cI cZ cJ : ClassId) (a : Nat → Nat) (b : Nat → Int32) (r : Nat → Int32) (T : Nat) (g : Nat) (hT : T < 2 ^ 30) (hg : g < 6) : MI (Unit) l yX1_amountIn cX1_amountIn 3 3 65 G (tY cI cZ cJ) [.ref (a 0), .int (nI T), .int (nI g)] (wT a cI b r) (fun zr _ => zr = amF b r T g) (fun _ => wT a cI b r) 0 0 := by
  refine MI_of (by decide) (Nat.le_of_ble_eq_true rfl) [(0, .ref (a 0)), (1, .int (nI T)), (2, .int (nI g))] rfl ?_
  intro p e s m below meth c hC hr hlocks hname
  have hC : Cx p s m _ c cX1_amountIn 3 RX1 G (tY cI cZ cJ) _ := hC
  refine z_aload_n (n := 1) hC dX1_amountIn_0 rfl 0 rfl rfl ?_
  refine z_iload_n (n := 2) hC dX1_amountIn_1 rfl 1 rfl rfl ?_
  refine z_iload_n (n := 3) hC dX1_amountIn_2 rfl 2 rfl rfl ?_
  refine z_calli (R := { frames := 3, cells := 0, slots := 0, locals := 65 }) (cells := 0) (slots := 0) (ws := wT a cI b r) (n := 6) (As := [.int (nI T), .int (nI g)]) (rest := []) hC (k_X1_angleIn l G cI cZ cJ a b r T g (by omega) (by omega)) kg_X1_34 kd_yX1_angleIn dX1_amountIn_3 ⟨Nat.le_of_ble_eq_true rfl, Nat.le_of_ble_eq_true rfl⟩ 0 rfl rfl rfl [0, 1, 2] rfl (by decide) rfl (Nat.le_of_ble_eq_true rfl) ⟨Nat.le_of_ble_eq_true rfl, Nat.le_of_ble_eq_true rfl⟩ (ws2 := fun u1 => wT a cI b r) [] (fun _ => rfl) ([]) (fun _ => rfl) rfl (fun _ => rfl) [a 0, a 1, a 2] (fun _ => rfl) rfl rfl rfl (fun r2 u1 h3 => ?_)
  subst h3
  refine z_mabs (v := absF (angF b r (stF T g) (T % 5))) (n := 9) hC q180 q637 q173 q639 (by decide) (Nat.le_of_ble_eq_true rfl) (by omega) (by omega) dX1_amountIn_6 rfl rfl ?_
  refine z_iret hC hr hlocks () ?_ rfl dX1_amountIn_9 (by omega) (by omega)
  rfl

set_option maxRecDepth 100000 in
set_option maxHeartbeats 4000000 in
/-- the hardest clay of a stand -/
theorem k_X1_hardestAt (l : Launch) (G : va_G) (cI cZ cJ : ClassId) (a : Nat → Nat) (b : Nat → Int32) (r : Nat → Int32) (s0 : Nat) (hs : s0 < 5) : MI (Unit) l yX1_hardestAt cX1_hardestAt 4 2 44 G (tY cI cZ cJ) [.ref (a 0), .int (nI s0)] (wT a cI b r) (fun zr _ => zr = nI (haF b r s0 4)) (fun _ => wT a cI b r) 0 0 := by
  refine MI_of (by decide) (Nat.le_of_ble_eq_true rfl) [(0, .ref (a 0)), (1, .int (nI s0))] rfl ?_
  intro p e s m below meth c hC hr hlocks hname
  have hC : Cx p s m _ c cX1_hardestAt 4 RX1 G (tY cI cZ cJ) _ := hC
  refine z_iconst (v := nI 0) (n := 1) hC dX1_hardestAt_0 (by decide) rfl ?_
  refine z_istore_n (lv' := [(2, .int (nI 0)), (0, .ref (a 0)), (1, .int (nI s0))]) (n := 2) hC dX1_hardestAt_1 rfl (by decide) rfl rfl ?_
  refine z_iconst (v := nI 1) (n := 3) hC dX1_hardestAt_2 (by decide) rfl ?_
  refine z_istore_n (lv' := [(3, .int (nI 1)), (2, .int (nI 0)), (0, .ref (a 0)), (1, .int (nI s0))]) (n := 4) hC dX1_hardestAt_3 rfl (by decide) rfl rfl ?_
  refine z_lv [2, 3, 1, 0] (lv' := [(0, .ref (a 0)), (1, .int (nI s0)), (2, .int (nI (haF b r s0 0))), (3, .int (nI (0 + 1)))]) rfl ?_
  refine z_loop 4 0 (fun i => wT a cI b r) (fun i => [(0, .ref (a 0)), (1, .int (nI s0)), (2, .int (nI (haF b r s0 i))), (3, .int (nI (i + 1)))]) (by omega) rfl rfl (fun i hi0 hi1 ih => ?_)
  refine z_iload_n (n := 5) hC dX1_hardestAt_4 rfl 3 rfl rfl ?_
  refine z_iconst (v := nI 5) (n := 6) hC dX1_hardestAt_5 (by decide) rfl ?_
  refine z_icmp_ge_n (tgt := 32) (n := 9) hC (i + 1) 5 rfl rfl (by omega) (by omega) dX1_hardestAt_6 (by decide) rfl (fun c1 => ?_) (fun c1 => ?_)
  · obtain rfl : 4 = i := by omega
    refine z_iload_n (n := 33) hC dX1_hardestAt_32 rfl 2 rfl rfl ?_
    refine z_iret hC hr hlocks () ?_ rfl dX1_hardestAt_33 (by omega) (by omega)
    rfl
  · refine z_aload_n (n := 10) hC dX1_hardestAt_9 rfl 0 rfl rfl ?_
    refine z_iload_n (n := 11) hC dX1_hardestAt_10 rfl 1 rfl rfl ?_
    refine z_iload_n (n := 12) hC dX1_hardestAt_11 rfl 3 rfl rfl ?_
    refine z_calli (R := { frames := 2, cells := 0, slots := 0, locals := 44 }) (cells := 0) (slots := 0) (ws := wT a cI b r) (n := 15) (As := [.int (nI s0), .int (nI (i + 1))]) (rest := []) hC (k_X1_amountAt l G cI cZ cJ a b r s0 (i + 1) (by omega)) kg_X1_37 kd_yX1_amountAt dX1_hardestAt_12 ⟨Nat.le_of_ble_eq_true rfl, Nat.le_of_ble_eq_true rfl⟩ 0 rfl rfl rfl [0, 1, 2] rfl (by decide) rfl (Nat.le_of_ble_eq_true rfl) ⟨Nat.le_of_ble_eq_true rfl, Nat.le_of_ble_eq_true rfl⟩ (ws2 := fun u2 => wT a cI b r) [] (fun _ => rfl) ([]) (fun _ => rfl) rfl (fun _ => rfl) [a 0, a 1, a 2] (fun _ => rfl) rfl rfl rfl (fun r3 u2 h4 => ?_)
    subst h4
    refine z_aload_n (n := 16) hC dX1_hardestAt_15 rfl 0 rfl rfl ?_
    refine z_iload_n (n := 17) hC dX1_hardestAt_16 rfl 1 rfl rfl ?_
    refine z_iload_n (n := 18) hC dX1_hardestAt_17 rfl 2 rfl rfl ?_
    refine z_calli (R := { frames := 2, cells := 0, slots := 0, locals := 44 }) (cells := 0) (slots := 0) (ws := wT a cI b r) (n := 21) (As := [.int (nI s0), .int (nI (haF b r s0 i))]) (rest := [.int (absF (angF b r s0 (i + 1)))]) hC (k_X1_amountAt l G cI cZ cJ a b r s0 (haF b r s0 i) (by omega)) kg_X1_37 kd_yX1_amountAt dX1_hardestAt_18 ⟨Nat.le_of_ble_eq_true rfl, Nat.le_of_ble_eq_true rfl⟩ 0 rfl rfl rfl [0, 1, 2] rfl (by decide) rfl (Nat.le_of_ble_eq_true rfl) ⟨Nat.le_of_ble_eq_true rfl, Nat.le_of_ble_eq_true rfl⟩ (ws2 := fun u5 => wT a cI b r) [] (fun _ => rfl) ([]) (fun _ => rfl) rfl (fun _ => rfl) [a 0, a 1, a 2] (fun _ => rfl) rfl rfl rfl (fun r6 u5 h7 => ?_)
    subst h7
    refine z_icmp_le (tgt := 26) (n := 24) hC dX1_hardestAt_21 (by decide) rfl (fun c8 => ?_) (fun c8 => ?_)
    · refine z_iinc (k0 := 3) (v := nI (i + 1 + 1)) (lv' := [(3, .int (nI (i + 1 + 1))), (0, .ref (a 0)), (1, .int (nI s0)), (2, .int (nI (haF b r s0 i)))]) (n := 29) hC dX1_hardestAt_26 rfl (nI_add (i + 1) 1) (by decide) rfl rfl ?_
      refine z_goto (n := 4) hC dX1_hardestAt_29 (by decide) ?_
      refine z_lv [1, 2, 3, 0] (lv' := [(0, .ref (a 0)), (1, .int (nI s0)), (2, .int (nI (haF b r s0 i))), (3, .int (nI (i + 1 + 1)))]) rfl ?_
      refine z_leq (lv' := [(0, .ref (a 0)), (1, .int (nI s0)), (2, .int (nI (haF b r s0 (i + 1)))), (3, .int (nI (i + 1 + 1)))]) (by simp only [haF, if_pos c1, if_pos c8]) ?_
      exact ih (i + 1) (by omega) (by omega)
    · refine z_iload_n (n := 25) hC dX1_hardestAt_24 rfl 3 rfl rfl ?_
      refine z_istore_n (lv' := [(2, .int (nI (i + 1))), (0, .ref (a 0)), (1, .int (nI s0)), (3, .int (nI (i + 1)))]) (n := 26) hC dX1_hardestAt_25 rfl (by decide) rfl rfl ?_
      refine z_iinc (k0 := 3) (v := nI (i + 1 + 1)) (lv' := [(3, .int (nI (i + 1 + 1))), (2, .int (nI (i + 1))), (0, .ref (a 0)), (1, .int (nI s0))]) (n := 29) hC dX1_hardestAt_26 rfl (nI_add (i + 1) 1) (by decide) rfl rfl ?_
      refine z_goto (n := 4) hC dX1_hardestAt_29 (by decide) ?_
      refine z_lv [2, 3, 1, 0] (lv' := [(0, .ref (a 0)), (1, .int (nI s0)), (2, .int (nI (i + 1))), (3, .int (nI (i + 1 + 1)))]) rfl ?_
      refine z_leq (lv' := [(0, .ref (a 0)), (1, .int (nI s0)), (2, .int (nI (haF b r s0 (i + 1)))), (3, .int (nI (i + 1 + 1)))]) (by simp only [haF, if_pos c1, if_neg c8]) ?_
      exact ih (i + 1) (by omega) (by omega)

set_option maxRecDepth 100000 in
set_option maxHeartbeats 4000000 in
theorem k_X1_greatestAmount (l : Launch) (G : va_G) (cI cZ cJ : ClassId) (a : Nat → Nat) (b : Nat → Int32) (r : Nat → Int32)  : MI (Unit) l yX1_greatestAmount cX1_greatestAmount 3 3 67 G (tY cI cZ cJ) [.ref (a 0)] (wT a cI b r) (fun zr _ => zr = grF b r (nI 0) 5) (fun _ => wT a cI b r) 0 0 := by
  refine MI_of (by decide) (Nat.le_of_ble_eq_true rfl) [(0, .ref (a 0))] rfl ?_
  intro p e s m below meth c hC hr hlocks hname
  have hC : Cx p s m _ c cX1_greatestAmount 3 RX1 G (tY cI cZ cJ) _ := hC
  refine z_iconst (v := nI 0) (n := 1) hC dX1_greatestAmount_0 (by decide) rfl ?_
  refine z_istore_n (lv' := [(1, .int (nI 0)), (0, .ref (a 0))]) (n := 2) hC dX1_greatestAmount_1 rfl (by decide) rfl rfl ?_
  refine z_iconst (v := nI 0) (n := 3) hC dX1_greatestAmount_2 (by decide) rfl ?_
  refine z_istore_n (lv' := [(2, .int (nI 0)), (1, .int (nI 0)), (0, .ref (a 0))]) (n := 4) hC dX1_greatestAmount_3 rfl (by decide) rfl rfl ?_
  refine z_lv [2, 1, 0] (lv' := [(0, .ref (a 0)), (1, .int (grF b r (nI 0) 0)), (2, .int (nI 0))]) rfl ?_
  refine z_loop 5 0 (fun i => wT a cI b r) (fun i => [(0, .ref (a 0)), (1, .int (grF b r (nI 0) i)), (2, .int (nI i))]) (by omega) rfl rfl (fun i hi0 hi1 ih => ?_)
  have hle := haF_le b r i 4
  refine z_iload_n (n := 5) hC dX1_greatestAmount_4 rfl 2 rfl rfl ?_
  refine z_iconst (v := nI 5) (n := 6) hC dX1_greatestAmount_5 (by decide) rfl ?_
  refine z_icmp_ge_n (tgt := 30) (n := 9) hC i 5 rfl rfl (by omega) (by omega) dX1_greatestAmount_6 (by decide) rfl (fun c1 => ?_) (fun c1 => ?_)
  · obtain rfl : 5 = i := by omega
    refine z_iload_n (n := 31) hC dX1_greatestAmount_30 rfl 1 rfl rfl ?_
    refine z_iret hC hr hlocks () ?_ rfl dX1_greatestAmount_31 (by omega) (by omega)
    rfl
  · refine z_iload_n (n := 10) hC dX1_greatestAmount_9 rfl 1 rfl rfl ?_
    refine z_aload_n (n := 11) hC dX1_greatestAmount_10 rfl 0 rfl rfl ?_
    refine z_iload_n (n := 12) hC dX1_greatestAmount_11 rfl 2 rfl rfl ?_
    refine z_aload_n (n := 13) hC dX1_greatestAmount_12 rfl 0 rfl rfl ?_
    refine z_iload_n (n := 14) hC dX1_greatestAmount_13 rfl 2 rfl rfl ?_
    refine z_calli (R := { frames := 3, cells := 0, slots := 0, locals := 67 }) (cells := 0) (slots := 0) (ws := wT a cI b r) (n := 17) (As := [.int (nI i)]) (rest := [.int (nI i), .ref (a 0), .int (grF b r (nI 0) i)]) hC (k_X1_hardestAt l G cI cZ cJ a b r i (by omega)) kg_X1_40 kd_yX1_hardestAt dX1_greatestAmount_14 ⟨Nat.le_of_ble_eq_true rfl, Nat.le_of_ble_eq_true rfl⟩ 0 rfl rfl rfl [0, 1, 2] rfl (by decide) rfl (Nat.le_of_ble_eq_true rfl) ⟨Nat.le_of_ble_eq_true rfl, Nat.le_of_ble_eq_true rfl⟩ (ws2 := fun u2 => wT a cI b r) [] (fun _ => rfl) ([]) (fun _ => rfl) rfl (fun _ => rfl) [a 0, a 1, a 2] (fun _ => rfl) rfl rfl rfl (fun r3 u2 h4 => ?_)
    subst h4
    refine z_calli (R := { frames := 3, cells := 0, slots := 0, locals := 67 }) (cells := 0) (slots := 0) (ws := wT a cI b r) (n := 20) (As := [.int (nI i), .int (nI (haF b r i 4))]) (rest := [.int (grF b r (nI 0) i)]) hC (k_X1_amountAt l G cI cZ cJ a b r i (haF b r i 4) (by omega)) kg_X1_37 kd_yX1_amountAt dX1_greatestAmount_17 ⟨Nat.le_of_ble_eq_true rfl, Nat.le_of_ble_eq_true rfl⟩ 0 rfl rfl rfl [0, 1, 2] rfl (by decide) rfl (Nat.le_of_ble_eq_true rfl) ⟨Nat.le_of_ble_eq_true rfl, Nat.le_of_ble_eq_true rfl⟩ (ws2 := fun u5 => wT a cI b r) [] (fun _ => rfl) ([]) (fun _ => rfl) rfl (fun _ => rfl) [a 0, a 1, a 2] (fun _ => rfl) rfl rfl rfl (fun r6 u5 h7 => ?_)
    subst h7
    refine z_mmax (v := maxF (grF b r (nI 0) i) (absF (angF b r i (haF b r i 4)))) (n := 23) hC q380 q638 q173 q640 (by decide) (Nat.le_of_ble_eq_true rfl) (by omega) (by omega) dX1_greatestAmount_20 rfl rfl ?_
    refine z_istore_n (lv' := [(1, .int (maxF (grF b r (nI 0) i) (absF (angF b r i (haF b r i 4))))), (0, .ref (a 0)), (2, .int (nI i))]) (n := 24) hC dX1_greatestAmount_23 rfl (by decide) rfl rfl ?_
    refine z_iinc (k0 := 2) (v := nI (i + 1)) (lv' := [(2, .int (nI (i + 1))), (1, .int (maxF (grF b r (nI 0) i) (absF (angF b r i (haF b r i 4))))), (0, .ref (a 0))]) (n := 27) hC dX1_greatestAmount_24 rfl (nI_add i 1) (by decide) rfl rfl ?_
    refine z_goto (n := 4) hC dX1_greatestAmount_27 (by decide) ?_
    refine z_lv [2, 1, 0] (lv' := [(0, .ref (a 0)), (1, .int (grF b r (nI 0) (i + 1))), (2, .int (nI (i + 1)))]) rfl ?_
    exact ih (i + 1) (by omega) (by omega)

set_option maxRecDepth 100000 in
set_option maxHeartbeats 4000000 in
theorem k_X0_enter (l : Launch) (G : va_G) (cI cZ cJ : ClassId) (a : Nat → Nat) (sw : Nat → Int32) (st : Nat → Int32) (fa : Nat → Int32) (sc : Nat → Int32) (fi : Nat → Int32) (mi : Nat → Int32) (lf : Nat → Bool) (hi : Nat → Bool) (n : Nat) (x : Int32) (y : Int32) (hn : n < 6) : MI (Unit) l yX0_enter cX0_enter 4 0 0 G (tY cI cZ cJ) [.ref (a 0), .int x, .int y] (wS a cI cZ sw st fa sc fi mi lf hi n) (fun zr _ => zr = nI n) (fun _ => wS a cI cZ (upd sw n x) (upd st n y) fa sc fi mi lf hi (n + 1)) 0 0 := by
  refine MI_of (by decide) (Nat.le_of_ble_eq_true rfl) [(0, .ref (a 0)), (1, .int x), (2, .int y)] rfl ?_
  intro p e s m below meth c hC hr hlocks hname
  have hC : Cx p s m _ c cX0_enter 4 RX0 G (tY cI cZ cJ) _ := hC
  refine z_aload_n (n := 1) hC dX0_enter_0 rfl 0 rfl rfl ?_
  refine gf_X0_37 (v := .int (nI n)) (n := 4) hC 0 rfl rfl dX0_enter_1 rfl ?_
  refine z_istore_n (lv' := [(3, .int (nI n)), (0, .ref (a 0)), (1, .int x), (2, .int y)]) (n := 5) hC dX0_enter_4 rfl (by decide) rfl rfl ?_
  refine z_aload_n (n := 6) hC dX0_enter_5 rfl 1 rfl rfl ?_
  refine gf_X0_9 (v := .ref (a 1)) (n := 9) hC 0 rfl rfl dX0_enter_6 rfl ?_
  refine z_iload_n (n := 10) hC dX0_enter_9 rfl 0 rfl rfl ?_
  refine z_iload_n (n := 11) hC dX0_enter_10 rfl 2 rfl rfl ?_
  refine z_iast (ws' := wS a cI cZ (upd sw n x) st fa sc fi mi lf hi n) (n := 12) hC 1 0 n rfl rfl rfl (by omega) (by decide) dX0_enter_11 rfl rfl rfl ?_
  refine z_aload_n (n := 13) hC dX0_enter_12 rfl 1 rfl rfl ?_
  refine gf_X0_15 (v := .ref (a 2)) (n := 16) hC 0 rfl rfl dX0_enter_13 rfl ?_
  refine z_iload_n (n := 17) hC dX0_enter_16 rfl 0 rfl rfl ?_
  refine z_iload_n (n := 18) hC dX0_enter_17 rfl 3 rfl rfl ?_
  refine z_iast (ws' := wS a cI cZ (upd sw n x) (upd st n y) fa sc fi mi lf hi n) (n := 19) hC 2 0 n rfl rfl rfl (by omega) (by decide) dX0_enter_18 rfl rfl rfl ?_
  refine z_aload_n (n := 20) hC dX0_enter_19 rfl 1 rfl rfl ?_
  refine z_iload_n (n := 21) hC dX0_enter_20 rfl 0 rfl rfl ?_
  refine z_iconst (v := nI 1) (n := 22) hC dX0_enter_21 (by decide) rfl ?_
  refine z_iadd (v := nI (n + 1)) (n := 23) hC dX0_enter_22 (nI_add n 1) rfl ?_
  refine pf_X0_37 (ws' := wS a cI cZ (upd sw n x) (upd st n y) fa sc fi mi lf hi (n + 1)) (n := 26) hC 0 rfl (Nat.le_of_ble_eq_true rfl) dX0_enter_23 rfl rfl ?_
  refine z_iload_n (n := 27) hC dX0_enter_26 rfl 0 rfl rfl ?_
  refine z_iret hC hr hlocks () ?_ rfl dX0_enter_27 (by omega) (by omega)
  rfl

set_option maxRecDepth 100000 in
set_option maxHeartbeats 4000000 in
/-- the guns of another squad -/
theorem k_X0_takeOver (l : Launch) (G : va_G) (cI cZ cJ : ClassId) (a : Nat → Nat) (sw : Nat → Int32) (st : Nat → Int32) (fa : Nat → Int32) (sc : Nat → Int32) (fi : Nat → Int32) (mi : Nat → Int32) (lf : Nat → Bool) (hi : Nat → Bool) (n : Nat) (a2 : Nat → Nat) (sw2 : Nat → Int32) (st2 : Nat → Int32) (fa2 : Nat → Int32) (sc2 : Nat → Int32) (fi2 : Nat → Int32) (mi2 : Nat → Int32) (lf2 : Nat → Bool) (hi2 : Nat → Bool) (n2 : Nat) (hn : n2 ≤ 6) : MV (Unit) l yX0_takeOver cX0_takeOver 3 0 0 G (tY cI cZ cJ) [.ref (a 0), .ref (a2 0)] ((wS a cI cZ sw st fa sc fi mi lf hi n) ++ (wS a2 cI cZ sw2 st2 fa2 sc2 fi2 mi2 lf2 hi2 n2)) (fun _ => True) (fun _ => (wS a cI cZ (pwF sw sw2 n2) (pwF st st2 n2) (pwF fa fa2 n2) (pwF sc sc2 n2) (pwF fi fi2 n2) (pwF mi mi2 n2) lf hi n2) ++ (wS a2 cI cZ sw2 st2 fa2 sc2 fi2 mi2 lf2 hi2 n2)) 0 0 := by
  refine MV_of (by decide) (Nat.le_of_ble_eq_true rfl) [(0, .ref (a 0)), (1, .ref (a2 0))] rfl ?_
  intro p e s m below meth c hC hr hlocks hname
  have hC : Cx p s m _ c cX0_takeOver 3 RX0 G (tY cI cZ cJ) _ := hC
  refine z_aload_n (n := 1) hC dX0_takeOver_0 rfl 0 rfl rfl ?_
  refine z_aload_n (n := 2) hC dX0_takeOver_1 rfl 1 rfl rfl ?_
  refine gf_X0_37 (v := .int (nI n2)) (n := 5) hC 9 rfl rfl dX0_takeOver_2 rfl ?_
  refine pf_X0_37 (ws' := (wS a cI cZ sw st fa sc fi mi lf hi n2) ++ (wS a2 cI cZ sw2 st2 fa2 sc2 fi2 mi2 lf2 hi2 n2)) (n := 8) hC 0 rfl (Nat.le_of_ble_eq_true rfl) dX0_takeOver_5 rfl rfl ?_
  refine z_iconst (v := nI 0) (n := 9) hC dX0_takeOver_8 (by decide) rfl ?_
  refine z_istore_n (lv' := [(2, .int (nI 0)), (0, .ref (a 0)), (1, .ref (a2 0))]) (n := 10) hC dX0_takeOver_9 rfl (by decide) rfl rfl ?_
  refine z_lv [1, 2, 0] (lv' := [(0, .ref (a 0)), (1, .ref (a2 0)), (2, .int (nI 0))]) rfl ?_
  refine z_weq (ws' := (wS a cI cZ (pwF sw sw2 0) (pwF st st2 0) (pwF fa fa2 0) (pwF sc sc2 0) (pwF fi fi2 0) (pwF mi mi2 0) lf hi n2) ++ (wS a2 cI cZ sw2 st2 fa2 sc2 fi2 mi2 lf2 hi2 n2)) (by simp only [pwF_0]) ?_
  refine z_loop n2 0 (fun i => (wS a cI cZ (pwF sw sw2 i) (pwF st st2 i) (pwF fa fa2 i) (pwF sc sc2 i) (pwF fi fi2 i) (pwF mi mi2 i) lf hi n2) ++ (wS a2 cI cZ sw2 st2 fa2 sc2 fi2 mi2 lf2 hi2 n2)) (fun i => [(0, .ref (a 0)), (1, .ref (a2 0)), (2, .int (nI i))]) (by omega) rfl rfl (fun i hi0 hi1 ih => ?_)
  refine z_iload_n (n := 11) hC dX0_takeOver_10 rfl 2 rfl rfl ?_
  refine z_aload_n (n := 12) hC dX0_takeOver_11 rfl 0 rfl rfl ?_
  refine gf_X0_37 (v := .int (nI n2)) (n := 15) hC 0 rfl rfl dX0_takeOver_12 rfl ?_
  refine z_icmp_ge_n (tgt := 96) (n := 18) hC i n2 rfl rfl (by omega) (by omega) dX0_takeOver_15 (by decide) rfl (fun c1 => ?_) (fun c1 => ?_)
  · obtain rfl : n2 = i := by omega
    refine z_vret hC hr hlocks () ?_ rfl dX0_takeOver_96 (by omega) (by omega)
    trivial
  · refine z_aload_n (n := 19) hC dX0_takeOver_18 rfl 0 rfl rfl ?_
    refine gf_X0_9 (v := .ref (a 1)) (n := 22) hC 0 rfl rfl dX0_takeOver_19 rfl ?_
    refine z_iload_n (n := 23) hC dX0_takeOver_22 rfl 2 rfl rfl ?_
    refine z_aload_n (n := 24) hC dX0_takeOver_23 rfl 1 rfl rfl ?_
    refine gf_X0_9 (v := .ref (a2 1)) (n := 27) hC 9 rfl rfl dX0_takeOver_24 rfl ?_
    refine z_iload_n (n := 28) hC dX0_takeOver_27 rfl 2 rfl rfl ?_
    refine z_iald (v := sw2 i) (n := 29) hC 10 0 i rfl rfl rfl (by omega) (by decide) dX0_takeOver_28 rfl rfl ?_
    refine z_iast (ws' := (wS a cI cZ (pwF sw sw2 (i + 1)) (pwF st st2 i) (pwF fa fa2 i) (pwF sc sc2 i) (pwF fi fi2 i) (pwF mi mi2 i) lf hi n2) ++ (wS a2 cI cZ sw2 st2 fa2 sc2 fi2 mi2 lf2 hi2 n2)) (n := 30) hC 1 0 i rfl rfl rfl (by omega) (by decide) dX0_takeOver_29 pwF_s rfl rfl ?_
    refine z_aload_n (n := 31) hC dX0_takeOver_30 rfl 0 rfl rfl ?_
    refine gf_X0_15 (v := .ref (a 2)) (n := 34) hC 0 rfl rfl dX0_takeOver_31 rfl ?_
    refine z_iload_n (n := 35) hC dX0_takeOver_34 rfl 2 rfl rfl ?_
    refine z_aload_n (n := 36) hC dX0_takeOver_35 rfl 1 rfl rfl ?_
    refine gf_X0_15 (v := .ref (a2 2)) (n := 39) hC 9 rfl rfl dX0_takeOver_36 rfl ?_
    refine z_iload_n (n := 40) hC dX0_takeOver_39 rfl 2 rfl rfl ?_
    refine z_iald (v := st2 i) (n := 41) hC 11 0 i rfl rfl rfl (by omega) (by decide) dX0_takeOver_40 rfl rfl ?_
    refine z_iast (ws' := (wS a cI cZ (pwF sw sw2 (i + 1)) (pwF st st2 (i + 1)) (pwF fa fa2 i) (pwF sc sc2 i) (pwF fi fi2 i) (pwF mi mi2 i) lf hi n2) ++ (wS a2 cI cZ sw2 st2 fa2 sc2 fi2 mi2 lf2 hi2 n2)) (n := 42) hC 2 0 i rfl rfl rfl (by omega) (by decide) dX0_takeOver_41 pwF_s rfl rfl ?_
    refine z_aload_n (n := 43) hC dX0_takeOver_42 rfl 0 rfl rfl ?_
    refine gf_X0_18 (v := .ref (a 3)) (n := 46) hC 0 rfl rfl dX0_takeOver_43 rfl ?_
    refine z_iload_n (n := 47) hC dX0_takeOver_46 rfl 2 rfl rfl ?_
    refine z_aload_n (n := 48) hC dX0_takeOver_47 rfl 1 rfl rfl ?_
    refine gf_X0_18 (v := .ref (a2 3)) (n := 51) hC 9 rfl rfl dX0_takeOver_48 rfl ?_
    refine z_iload_n (n := 52) hC dX0_takeOver_51 rfl 2 rfl rfl ?_
    refine z_iald (v := fa2 i) (n := 53) hC 12 0 i rfl rfl rfl (by omega) (by decide) dX0_takeOver_52 rfl rfl ?_
    refine z_iast (ws' := (wS a cI cZ (pwF sw sw2 (i + 1)) (pwF st st2 (i + 1)) (pwF fa fa2 (i + 1)) (pwF sc sc2 i) (pwF fi fi2 i) (pwF mi mi2 i) lf hi n2) ++ (wS a2 cI cZ sw2 st2 fa2 sc2 fi2 mi2 lf2 hi2 n2)) (n := 54) hC 3 0 i rfl rfl rfl (by omega) (by decide) dX0_takeOver_53 pwF_s rfl rfl ?_
    refine z_aload_n (n := 55) hC dX0_takeOver_54 rfl 0 rfl rfl ?_
    refine gf_X0_21 (v := .ref (a 4)) (n := 58) hC 0 rfl rfl dX0_takeOver_55 rfl ?_
    refine z_iload_n (n := 59) hC dX0_takeOver_58 rfl 2 rfl rfl ?_
    refine z_aload_n (n := 60) hC dX0_takeOver_59 rfl 1 rfl rfl ?_
    refine gf_X0_21 (v := .ref (a2 4)) (n := 63) hC 9 rfl rfl dX0_takeOver_60 rfl ?_
    refine z_iload_n (n := 64) hC dX0_takeOver_63 rfl 2 rfl rfl ?_
    refine z_iald (v := sc2 i) (n := 65) hC 13 0 i rfl rfl rfl (by omega) (by decide) dX0_takeOver_64 rfl rfl ?_
    refine z_iast (ws' := (wS a cI cZ (pwF sw sw2 (i + 1)) (pwF st st2 (i + 1)) (pwF fa fa2 (i + 1)) (pwF sc sc2 (i + 1)) (pwF fi fi2 i) (pwF mi mi2 i) lf hi n2) ++ (wS a2 cI cZ sw2 st2 fa2 sc2 fi2 mi2 lf2 hi2 n2)) (n := 66) hC 4 0 i rfl rfl rfl (by omega) (by decide) dX0_takeOver_65 pwF_s rfl rfl ?_
    refine z_aload_n (n := 67) hC dX0_takeOver_66 rfl 0 rfl rfl ?_
    refine gf_X0_24 (v := .ref (a 5)) (n := 70) hC 0 rfl rfl dX0_takeOver_67 rfl ?_
    refine z_iload_n (n := 71) hC dX0_takeOver_70 rfl 2 rfl rfl ?_
    refine z_aload_n (n := 72) hC dX0_takeOver_71 rfl 1 rfl rfl ?_
    refine gf_X0_24 (v := .ref (a2 5)) (n := 75) hC 9 rfl rfl dX0_takeOver_72 rfl ?_
    refine z_iload_n (n := 76) hC dX0_takeOver_75 rfl 2 rfl rfl ?_
    refine z_iald (v := fi2 i) (n := 77) hC 14 0 i rfl rfl rfl (by omega) (by decide) dX0_takeOver_76 rfl rfl ?_
    refine z_iast (ws' := (wS a cI cZ (pwF sw sw2 (i + 1)) (pwF st st2 (i + 1)) (pwF fa fa2 (i + 1)) (pwF sc sc2 (i + 1)) (pwF fi fi2 (i + 1)) (pwF mi mi2 i) lf hi n2) ++ (wS a2 cI cZ sw2 st2 fa2 sc2 fi2 mi2 lf2 hi2 n2)) (n := 78) hC 5 0 i rfl rfl rfl (by omega) (by decide) dX0_takeOver_77 pwF_s rfl rfl ?_
    refine z_aload_n (n := 79) hC dX0_takeOver_78 rfl 0 rfl rfl ?_
    refine gf_X0_27 (v := .ref (a 6)) (n := 82) hC 0 rfl rfl dX0_takeOver_79 rfl ?_
    refine z_iload_n (n := 83) hC dX0_takeOver_82 rfl 2 rfl rfl ?_
    refine z_aload_n (n := 84) hC dX0_takeOver_83 rfl 1 rfl rfl ?_
    refine gf_X0_27 (v := .ref (a2 6)) (n := 87) hC 9 rfl rfl dX0_takeOver_84 rfl ?_
    refine z_iload_n (n := 88) hC dX0_takeOver_87 rfl 2 rfl rfl ?_
    refine z_iald (v := mi2 i) (n := 89) hC 15 0 i rfl rfl rfl (by omega) (by decide) dX0_takeOver_88 rfl rfl ?_
    refine z_iast (ws' := (wS a cI cZ (pwF sw sw2 (i + 1)) (pwF st st2 (i + 1)) (pwF fa fa2 (i + 1)) (pwF sc sc2 (i + 1)) (pwF fi fi2 (i + 1)) (pwF mi mi2 (i + 1)) lf hi n2) ++ (wS a2 cI cZ sw2 st2 fa2 sc2 fi2 mi2 lf2 hi2 n2)) (n := 90) hC 6 0 i rfl rfl rfl (by omega) (by decide) dX0_takeOver_89 pwF_s rfl rfl ?_
    refine z_iinc (k0 := 2) (v := nI (i + 1)) (lv' := [(2, .int (nI (i + 1))), (0, .ref (a 0)), (1, .ref (a2 0))]) (n := 93) hC dX0_takeOver_90 rfl (nI_add i 1) (by decide) rfl rfl ?_
    refine z_goto (n := 10) hC dX0_takeOver_93 (by decide) ?_
    refine z_lv [1, 2, 0] (lv' := [(0, .ref (a 0)), (1, .ref (a2 0)), (2, .int (nI (i + 1)))]) rfl ?_
    exact ih (i + 1) (by omega) (by omega)

set_option maxRecDepth 100000 in
set_option maxHeartbeats 4000000 in
theorem k_X0_trouble (l : Launch) (G : va_G) (cI cZ cJ : ClassId) (a : Nat → Nat) (sw : Nat → Int32) (st : Nat → Int32) (fa : Nat → Int32) (sc : Nat → Int32) (fi : Nat → Int32) (mi : Nat → Int32) (lf : Nat → Bool) (hi : Nat → Bool) (n : Nat) (g : Nat) (am : Int32) (hg : g < 6) : MI (Unit) l yX0_trouble cX0_trouble 4 0 0 G (tY cI cZ cJ) [.ref (a 0), .int (nI g), .int am] (wS a cI cZ sw st fa sc fi mi lf hi n) (fun zr _ => zr = trF (st g) (fa g) am) (fun _ => wS a cI cZ sw st fa sc fi mi lf hi n) 0 0 := by
  refine MI_of (by decide) (Nat.le_of_ble_eq_true rfl) [(0, .ref (a 0)), (1, .int (nI g)), (2, .int am)] rfl ?_
  intro p e s m below meth c hC hr hlocks hname
  have hC : Cx p s m _ c cX0_trouble 4 RX0 G (tY cI cZ cJ) _ := hC
  refine z_aload_n (n := 1) hC dX0_trouble_0 rfl 0 rfl rfl ?_
  refine gf_X0_15 (v := .ref (a 2)) (n := 4) hC 0 rfl rfl dX0_trouble_1 rfl ?_
  refine z_iload_n (n := 5) hC dX0_trouble_4 rfl 1 rfl rfl ?_
  refine z_iald (v := st g) (n := 6) hC 2 0 g rfl rfl rfl (by omega) (by decide) dX0_trouble_5 rfl rfl ?_
  refine z_istore_n (lv' := [(3, .int (st g)), (0, .ref (a 0)), (1, .int (nI g)), (2, .int am)]) (n := 7) hC dX0_trouble_6 rfl (by decide) rfl rfl ?_
  refine z_iload_n (n := 8) hC dX0_trouble_7 rfl 0 rfl rfl ?_
  refine z_iconst (v := nI 1) (n := 9) hC dX0_trouble_8 (by decide) rfl ?_
  refine z_icmp_ge (tgt := 16) (n := 12) hC dX0_trouble_9 (by decide) rfl (fun c1 => ?_) (fun c1 => ?_)
  · refine z_iload_n (n := 17) hC dX0_trouble_16 rfl 3 rfl rfl ?_
    refine z_aload_n (n := 18) hC dX0_trouble_17 rfl 1 rfl rfl ?_
    refine gf_X0_18 (v := .ref (a 3)) (n := 21) hC 0 rfl rfl dX0_trouble_18 rfl ?_
    refine z_iload_n (n := 22) hC dX0_trouble_21 rfl 2 rfl rfl ?_
    refine z_iald (v := fa g) (n := 23) hC 3 0 g rfl rfl rfl (by omega) (by decide) dX0_trouble_22 rfl rfl ?_
    refine z_iload_n (n := 24) hC dX0_trouble_23 rfl 0 rfl rfl ?_
    refine z_idiv (v := fa g / st g) (n := 25) hC dX0_trouble_24 (ne0_1 c1) rfl rfl ?_
    refine z_iadd (v := am + (fa g / st g)) (n := 26) hC dX0_trouble_25 rfl rfl ?_
    refine z_iret hC hr hlocks () ?_ rfl dX0_trouble_26 (by omega) (by omega)
    simp only [trF, if_pos c1]
  · refine z_iload_n (n := 13) hC dX0_trouble_12 rfl 3 rfl rfl ?_
    refine z_goto (n := 26) hC dX0_trouble_13 (by decide) ?_
    refine z_iret hC hr hlocks () ?_ rfl dX0_trouble_26 (by omega) (by omega)
    simp only [trF, if_neg c1]

set_option maxRecDepth 100000 in
set_option maxHeartbeats 4000000 in
theorem k_X0_outcome (l : Launch) (G : va_G) (cI cZ cJ : ClassId) (a : Nat → Nat) (sw : Nat → Int32) (st : Nat → Int32) (fa : Nat → Int32) (sc : Nat → Int32) (fi : Nat → Int32) (mi : Nat → Int32) (lf : Nat → Bool) (hi : Nat → Bool) (n : Nat) (g : Nat) (am : Int32) (hg : g < 6) : MI (Unit) l yX0_outcome cX0_outcome 3 1 23 G (tY cI cZ cJ) [.ref (a 0), .int (nI g), .int am] (wS a cI cZ sw st fa sc fi mi lf hi n) (fun zr _ => zr = ouF (sw g) (st g) (fa g) am) (fun _ => wS a cI cZ sw st fa sc fi mi lf hi n) 0 0 := by
  refine MI_of (by decide) (Nat.le_of_ble_eq_true rfl) [(0, .ref (a 0)), (1, .int (nI g)), (2, .int am)] rfl ?_
  intro p e s m below meth c hC hr hlocks hname
  have hC : Cx p s m _ c cX0_outcome 3 RX0 G (tY cI cZ cJ) _ := hC
  refine z_aload_n (n := 1) hC dX0_outcome_0 rfl 0 rfl rfl ?_
  refine z_iload_n (n := 2) hC dX0_outcome_1 rfl 1 rfl rfl ?_
  refine z_iload_n (n := 3) hC dX0_outcome_2 rfl 2 rfl rfl ?_
  refine z_calli (R := { frames := 1, cells := 0, slots := 0, locals := 23 }) (cells := 0) (slots := 0) (ws := wS a cI cZ sw st fa sc fi mi lf hi n) (n := 6) (As := [.int (nI g), .int am]) (rest := []) hC (k_X0_trouble l G cI cZ cJ a sw st fa sc fi mi lf hi n g am (by omega)) kg_X0_41 kd_yX0_trouble dX0_outcome_3 ⟨Nat.le_of_ble_eq_true rfl, Nat.le_of_ble_eq_true rfl⟩ 0 rfl rfl rfl [0, 1, 2, 3, 4, 5, 6, 7, 8] rfl (by decide) rfl (Nat.le_of_ble_eq_true rfl) ⟨Nat.le_of_ble_eq_true rfl, Nat.le_of_ble_eq_true rfl⟩ (ws2 := fun u1 => wS a cI cZ sw st fa sc fi mi lf hi n) [] (fun _ => rfl) ([]) (fun _ => rfl) rfl (fun _ => rfl) [a 0, a 1, a 2, a 3, a 4, a 5, a 6, a 7, a 8] (fun _ => rfl) rfl rfl rfl (fun r2 u1 h3 => ?_)
  subst h3
  refine z_aload_n (n := 7) hC dX0_outcome_6 rfl 0 rfl rfl ?_
  refine gf_X0_9 (v := .ref (a 1)) (n := 10) hC 0 rfl rfl dX0_outcome_7 rfl ?_
  refine z_iload_n (n := 11) hC dX0_outcome_10 rfl 1 rfl rfl ?_
  refine z_iald (v := sw g) (n := 12) hC 1 0 g rfl rfl rfl (by omega) (by decide) dX0_outcome_11 rfl rfl ?_
  refine z_icmp_gt (tgt := 17) (n := 15) hC dX0_outcome_12 (by decide) rfl (fun c4 => ?_) (fun c4 => ?_)
  · refine z_iload_n (n := 18) hC dX0_outcome_17 rfl 2 rfl rfl ?_
    refine z_aload_n (n := 19) hC dX0_outcome_18 rfl 0 rfl rfl ?_
    refine gf_X0_9 (v := .ref (a 1)) (n := 22) hC 0 rfl rfl dX0_outcome_19 rfl ?_
    refine z_iload_n (n := 23) hC dX0_outcome_22 rfl 1 rfl rfl ?_
    refine z_iald (v := sw g) (n := 24) hC 1 0 g rfl rfl rfl (by omega) (by decide) dX0_outcome_23 rfl rfl ?_
    refine z_icmp_gt (tgt := 31) (n := 27) hC dX0_outcome_24 (by decide) rfl (fun c5 => ?_) (fun c5 => ?_)
    · refine z_iconst (v := nI 0) (n := 32) hC dX0_outcome_31 (by decide) rfl ?_
      refine z_iret hC hr hlocks () ?_ rfl dX0_outcome_32 (by omega) (by omega)
      simp only [ouF, if_pos c4, if_pos c5]
    · refine z_iconst (v := nI 1) (n := 28) hC dX0_outcome_27 (by decide) rfl ?_
      refine z_goto (n := 32) hC dX0_outcome_28 (by decide) ?_
      refine z_iret hC hr hlocks () ?_ rfl dX0_outcome_32 (by omega) (by omega)
      simp only [ouF, if_pos c4, if_neg c5]
  · refine z_iconst (v := nI 2) (n := 16) hC dX0_outcome_15 (by decide) rfl ?_
    refine z_iret hC hr hlocks () ?_ rfl dX0_outcome_16 (by omega) (by omega)
    simp only [ouF, if_neg c4]

set_option maxRecDepth 100000 in
set_option maxHeartbeats 4000000 in
/-- a shot -/
theorem k_X0_shoot (l : Launch) (G : va_G) (cI cZ cJ : ClassId) (a : Nat → Nat) (sw : Nat → Int32) (st : Nat → Int32) (fa : Nat → Int32) (sc : Nat → Int32) (fi : Nat → Int32) (mi : Nat → Int32) (lf : Nat → Bool) (hi : Nat → Bool) (n : Nat) (g : Nat) (am : Int32) (hg : g < 6) : MV (Unit) l yX0_shoot cX0_shoot 4 2 45 G (tY cI cZ cJ) [.ref (a 0), .int (nI g), .int am] (wS a cI cZ sw st fa sc fi mi lf hi n) (fun _ => True) (fun _ => wS a cI cZ sw st (upd fa g (shQ (ouF (sw g) (st g) (fa g) am) (sc g, fi g, mi g, fa g)).2.2.2) (upd sc g (shQ (ouF (sw g) (st g) (fa g) am) (sc g, fi g, mi g, fa g)).1) (upd fi g (shQ (ouF (sw g) (st g) (fa g) am) (sc g, fi g, mi g, fa g)).2.1) (upd mi g (shQ (ouF (sw g) (st g) (fa g) am) (sc g, fi g, mi g, fa g)).2.2.1) lf hi n) 0 0 := by
  refine MV_of (by decide) (Nat.le_of_ble_eq_true rfl) [(0, .ref (a 0)), (1, .int (nI g)), (2, .int am)] rfl ?_
  intro p e s m below meth c hC hr hlocks hname
  have hC : Cx p s m _ c cX0_shoot 4 RX0 G (tY cI cZ cJ) _ := hC
  refine z_aload_n (n := 1) hC dX0_shoot_0 rfl 0 rfl rfl ?_
  refine z_iload_n (n := 2) hC dX0_shoot_1 rfl 1 rfl rfl ?_
  refine z_iload_n (n := 3) hC dX0_shoot_2 rfl 2 rfl rfl ?_
  refine z_calli (R := { frames := 2, cells := 0, slots := 0, locals := 45 }) (cells := 0) (slots := 0) (ws := wS a cI cZ sw st fa sc fi mi lf hi n) (n := 6) (As := [.int (nI g), .int am]) (rest := []) hC (k_X0_outcome l G cI cZ cJ a sw st fa sc fi mi lf hi n g am (by omega)) kg_X0_45 kd_yX0_outcome dX0_shoot_3 ⟨Nat.le_of_ble_eq_true rfl, Nat.le_of_ble_eq_true rfl⟩ 0 rfl rfl rfl [0, 1, 2, 3, 4, 5, 6, 7, 8] rfl (by decide) rfl (Nat.le_of_ble_eq_true rfl) ⟨Nat.le_of_ble_eq_true rfl, Nat.le_of_ble_eq_true rfl⟩ (ws2 := fun u1 => wS a cI cZ sw st fa sc fi mi lf hi n) [] (fun _ => rfl) ([]) (fun _ => rfl) rfl (fun _ => rfl) [a 0, a 1, a 2, a 3, a 4, a 5, a 6, a 7, a 8] (fun _ => rfl) rfl rfl rfl (fun r2 u1 h3 => ?_)
  subst h3
  refine z_istore_n (lv' := [(3, .int (ouF (sw g) (st g) (fa g) am)), (0, .ref (a 0)), (1, .int (nI g)), (2, .int am)]) (n := 7) hC dX0_shoot_6 rfl (by decide) rfl rfl ?_
  refine z_aload_n (n := 8) hC dX0_shoot_7 rfl 1 rfl rfl ?_
  refine gf_X0_21 (v := .ref (a 4)) (n := 11) hC 0 rfl rfl dX0_shoot_8 rfl ?_
  refine z_iload_n (n := 12) hC dX0_shoot_11 rfl 2 rfl rfl ?_
  refine z_dup2 (n := 13) hC dX0_shoot_12 rfl rfl rfl ?_
  refine z_iald (v := sc g) (n := 14) hC 4 0 g rfl rfl rfl (by omega) (by decide) dX0_shoot_13 rfl rfl ?_
  refine z_iload_n (n := 15) hC dX0_shoot_14 rfl 0 rfl rfl ?_
  refine z_iadd (v := (sc g) + (ouF (sw g) (st g) (fa g) am)) (n := 16) hC dX0_shoot_15 rfl rfl ?_
  refine z_iast (ws' := wS a cI cZ sw st fa (upd sc g ((sc g) + (ouF (sw g) (st g) (fa g) am))) fi mi lf hi n) (n := 17) hC 4 0 g rfl rfl rfl (by omega) (by decide) dX0_shoot_16 rfl rfl rfl ?_
  refine z_aload_n (n := 18) hC dX0_shoot_17 rfl 1 rfl rfl ?_
  refine gf_X0_18 (v := .ref (a 3)) (n := 21) hC 0 rfl rfl dX0_shoot_18 rfl ?_
  refine z_iload_n (n := 22) hC dX0_shoot_21 rfl 2 rfl rfl ?_
  refine z_dup2 (n := 23) hC dX0_shoot_22 rfl rfl rfl ?_
  refine z_iald (v := fa g) (n := 24) hC 3 0 g rfl rfl rfl (by omega) (by decide) dX0_shoot_23 rfl rfl ?_
  refine z_iload_n (n := 25) hC dX0_shoot_24 rfl 0 rfl rfl ?_
  refine z_iconst (v := nI 2) (n := 26) hC dX0_shoot_25 (by decide) rfl ?_
  refine z_icmp_ne (tgt := 33) (n := 29) hC dX0_shoot_26 (by decide) rfl (fun c4 => ?_) (fun c4 => ?_)
  · refine z_iconst (v := nI 2) (n := 34) hC dX0_shoot_33 (by decide) rfl ?_
    refine z_iadd (v := (fa g) + (nI 2)) (n := 35) hC dX0_shoot_34 rfl rfl ?_
    refine z_iast (ws' := wS a cI cZ sw st (upd fa g ((fa g) + (nI 2))) (upd sc g ((sc g) + (ouF (sw g) (st g) (fa g) am))) fi mi lf hi n) (n := 36) hC 3 0 g rfl rfl rfl (by omega) (by decide) dX0_shoot_35 rfl rfl rfl ?_
    refine z_iload_n (n := 37) hC dX0_shoot_36 rfl 0 rfl rfl ?_
    refine z_iconst (v := nI 2) (n := 38) hC dX0_shoot_37 (by decide) rfl ?_
    refine z_icmp_ne (tgt := 51) (n := 41) hC dX0_shoot_38 (by decide) rfl (fun c5 => ?_) (fun c5 => absurd c5 c4)
    refine z_iload_n (n := 52) hC dX0_shoot_51 rfl 0 rfl rfl ?_
    refine z_if_ne (tgt := 65) (n := 55) hC dX0_shoot_52 (by decide) rfl (fun c6 => ?_) (fun c6 => ?_)
    · refine z_vret hC hr hlocks () ?_ (by simp only [shQ, if_neg c4, if_neg c6, upd_id]) dX0_shoot_65 (by omega) (by omega)
      trivial
    · refine z_aload_n (n := 56) hC dX0_shoot_55 rfl 1 rfl rfl ?_
      refine gf_X0_27 (v := .ref (a 6)) (n := 59) hC 0 rfl rfl dX0_shoot_56 rfl ?_
      refine z_iload_n (n := 60) hC dX0_shoot_59 rfl 2 rfl rfl ?_
      refine z_dup2 (n := 61) hC dX0_shoot_60 rfl rfl rfl ?_
      refine z_iald (v := mi g) (n := 62) hC 6 0 g rfl rfl rfl (by omega) (by decide) dX0_shoot_61 rfl rfl ?_
      refine z_iconst (v := nI 1) (n := 63) hC dX0_shoot_62 (by decide) rfl ?_
      refine z_iadd (v := (mi g) + (nI 1)) (n := 64) hC dX0_shoot_63 rfl rfl ?_
      refine z_iast (ws' := wS a cI cZ sw st (upd fa g ((fa g) + (nI 2))) (upd sc g ((sc g) + (ouF (sw g) (st g) (fa g) am))) fi (upd mi g ((mi g) + (nI 1))) lf hi n) (n := 65) hC 6 0 g rfl rfl rfl (by omega) (by decide) dX0_shoot_64 rfl rfl rfl ?_
      refine z_vret hC hr hlocks () ?_ (by simp only [shQ, if_neg c4, if_pos c6, upd_id]) dX0_shoot_65 (by omega) (by omega)
      trivial
  · refine z_iconst (v := nI 1) (n := 30) hC dX0_shoot_29 (by decide) rfl ?_
    refine z_goto (n := 34) hC dX0_shoot_30 (by decide) ?_
    refine z_iadd (v := (fa g) + (nI 1)) (n := 35) hC dX0_shoot_34 rfl rfl ?_
    refine z_iast (ws' := wS a cI cZ sw st (upd fa g ((fa g) + (nI 1))) (upd sc g ((sc g) + (ouF (sw g) (st g) (fa g) am))) fi mi lf hi n) (n := 36) hC 3 0 g rfl rfl rfl (by omega) (by decide) dX0_shoot_35 rfl rfl rfl ?_
    refine z_iload_n (n := 37) hC dX0_shoot_36 rfl 0 rfl rfl ?_
    refine z_iconst (v := nI 2) (n := 38) hC dX0_shoot_37 (by decide) rfl ?_
    refine z_icmp_ne (tgt := 51) (n := 41) hC dX0_shoot_38 (by decide) rfl (fun c7 => absurd c4 c7) (fun c7 => ?_)
    refine z_aload_n (n := 42) hC dX0_shoot_41 rfl 1 rfl rfl ?_
    refine gf_X0_24 (v := .ref (a 5)) (n := 45) hC 0 rfl rfl dX0_shoot_42 rfl ?_
    refine z_iload_n (n := 46) hC dX0_shoot_45 rfl 2 rfl rfl ?_
    refine z_dup2 (n := 47) hC dX0_shoot_46 rfl rfl rfl ?_
    refine z_iald (v := fi g) (n := 48) hC 5 0 g rfl rfl rfl (by omega) (by decide) dX0_shoot_47 rfl rfl ?_
    refine z_iconst (v := nI 1) (n := 49) hC dX0_shoot_48 (by decide) rfl ?_
    refine z_iadd (v := (fi g) + (nI 1)) (n := 50) hC dX0_shoot_49 rfl rfl ?_
    refine z_iast (ws' := wS a cI cZ sw st (upd fa g ((fa g) + (nI 1))) (upd sc g ((sc g) + (ouF (sw g) (st g) (fa g) am))) (upd fi g ((fi g) + (nI 1))) mi lf hi n) (n := 51) hC 5 0 g rfl rfl rfl (by omega) (by decide) dX0_shoot_50 rfl rfl rfl ?_
    refine z_iload_n (n := 52) hC dX0_shoot_51 rfl 0 rfl rfl ?_
    refine z_if_ne (tgt := 65) (n := 55) hC dX0_shoot_52 (by decide) rfl (fun c8 => ?_) (fun c8 => ?_)
    · refine z_vret hC hr hlocks () ?_ (by simp only [shQ, if_pos c4, if_neg c8, upd_id]) dX0_shoot_65 (by omega) (by omega)
      trivial
    · refine z_aload_n (n := 56) hC dX0_shoot_55 rfl 1 rfl rfl ?_
      refine gf_X0_27 (v := .ref (a 6)) (n := 59) hC 0 rfl rfl dX0_shoot_56 rfl ?_
      refine z_iload_n (n := 60) hC dX0_shoot_59 rfl 2 rfl rfl ?_
      refine z_dup2 (n := 61) hC dX0_shoot_60 rfl rfl rfl ?_
      refine z_iald (v := mi g) (n := 62) hC 6 0 g rfl rfl rfl (by omega) (by decide) dX0_shoot_61 rfl rfl ?_
      refine z_iconst (v := nI 1) (n := 63) hC dX0_shoot_62 (by decide) rfl ?_
      refine z_iadd (v := (mi g) + (nI 1)) (n := 64) hC dX0_shoot_63 rfl rfl ?_
      refine z_iast (ws' := wS a cI cZ sw st (upd fa g ((fa g) + (nI 1))) (upd sc g ((sc g) + (ouF (sw g) (st g) (fa g) am))) (upd fi g ((fi g) + (nI 1))) (upd mi g ((mi g) + (nI 1))) lf hi n) (n := 65) hC 6 0 g rfl rfl rfl (by omega) (by decide) dX0_shoot_64 rfl rfl rfl ?_
      refine z_vret hC hr hlocks () ?_ (by simp only [shQ, if_pos c4, if_pos c8, upd_id]) dX0_shoot_65 (by omega) (by omega)
      trivial

set_option maxRecDepth 100000 in
set_option maxHeartbeats 4000000 in
/-- one gun through k turns -/
theorem k_X0_playAlone (l : Launch) (G : va_G) (cI cZ cJ : ClassId) (a : Nat → Nat) (sw : Nat → Int32) (st : Nat → Int32) (fa : Nat → Int32) (sc : Nat → Int32) (fi : Nat → Int32) (mi : Nat → Int32) (lf : Nat → Bool) (hi : Nat → Bool) (n : Nat) (ta : Nat → Nat) (b : Nat → Int32) (r : Nat → Int32) (g : Nat) (T : Nat) (k : Nat) (hg : g < 6) (hT : T + k < 2 ^ 30) : MV (Unit) l yX0_playAlone cX0_playAlone 7 4 87 G (tY cI cZ cJ) [.ref (a 0), .ref (ta 0), .int (nI g), .int (nI T), .int (nI k)] ((wS a cI cZ sw st fa sc fi mi lf hi n) ++ (wT ta cI b r)) (fun _ => True) (fun _ => (wS a cI cZ sw st (upd fa g (ruQ (sw g) (st g) b r T g (sc g, fi g, mi g, fa g) k).2.2.2) (upd sc g (ruQ (sw g) (st g) b r T g (sc g, fi g, mi g, fa g) k).1) (upd fi g (ruQ (sw g) (st g) b r T g (sc g, fi g, mi g, fa g) k).2.1) (upd mi g (ruQ (sw g) (st g) b r T g (sc g, fi g, mi g, fa g) k).2.2.1) lf hi n) ++ (wT ta cI b r)) 0 0 := by
  refine MV_of (by decide) (Nat.le_of_ble_eq_true rfl) [(0, .ref (a 0)), (1, .ref (ta 0)), (2, .int (nI g)), (3, .int (nI T)), (4, .int (nI k))] rfl ?_
  intro p e s m below meth c hC hr hlocks hname
  have hC : Cx p s m _ c cX0_playAlone 7 RX0 G (tY cI cZ cJ) _ := hC
  refine z_iconst (v := nI 0) (n := 1) hC dX0_playAlone_0 (by decide) rfl ?_
  refine z_istore (lv' := [(5, .int (nI 0)), (0, .ref (a 0)), (1, .ref (ta 0)), (2, .int (nI g)), (3, .int (nI T)), (4, .int (nI k))]) (n := 3) hC dX0_playAlone_1 (by decide) rfl rfl ?_
  refine z_lv [1, 2, 3, 4, 5, 0] (lv' := [(0, .ref (a 0)), (1, .ref (ta 0)), (2, .int (nI g)), (3, .int (nI T)), (4, .int (nI k)), (5, .int (nI 0))]) rfl ?_
  refine z_weq (ws' := (wS a cI cZ sw st (upd fa g (ruQ (sw g) (st g) b r T g (sc g, fi g, mi g, fa g) 0).2.2.2) (upd sc g (ruQ (sw g) (st g) b r T g (sc g, fi g, mi g, fa g) 0).1) (upd fi g (ruQ (sw g) (st g) b r T g (sc g, fi g, mi g, fa g) 0).2.1) (upd mi g (ruQ (sw g) (st g) b r T g (sc g, fi g, mi g, fa g) 0).2.2.1) lf hi n) ++ (wT ta cI b r)) (by simp only [ruQ, upd_id]) ?_
  refine z_loop k 0 (fun i => (wS a cI cZ sw st (upd fa g (ruQ (sw g) (st g) b r T g (sc g, fi g, mi g, fa g) i).2.2.2) (upd sc g (ruQ (sw g) (st g) b r T g (sc g, fi g, mi g, fa g) i).1) (upd fi g (ruQ (sw g) (st g) b r T g (sc g, fi g, mi g, fa g) i).2.1) (upd mi g (ruQ (sw g) (st g) b r T g (sc g, fi g, mi g, fa g) i).2.2.1) lf hi n) ++ (wT ta cI b r)) (fun i => [(0, .ref (a 0)), (1, .ref (ta 0)), (2, .int (nI g)), (3, .int (nI T)), (4, .int (nI k)), (5, .int (nI i))]) (by omega) rfl rfl (fun i hi0 hi1 ih => ?_)
  refine z_iload (n := 5) hC dX0_playAlone_3 5 rfl rfl ?_
  refine z_iload (n := 7) hC dX0_playAlone_5 4 rfl rfl ?_
  refine z_icmp_ge_n (tgt := 61) (n := 10) hC i k rfl rfl (by omega) (by omega) dX0_playAlone_7 (by decide) rfl (fun c1 => ?_) (fun c1 => ?_)
  · obtain rfl : k = i := by omega
    refine z_vret hC hr hlocks () ?_ rfl dX0_playAlone_61 (by omega) (by omega)
    trivial
  · refine z_iload_n (n := 11) hC dX0_playAlone_10 rfl 3 rfl rfl ?_
    refine z_iload (n := 13) hC dX0_playAlone_11 5 rfl rfl ?_
    refine z_iadd (v := nI (T + i)) (n := 14) hC dX0_playAlone_13 (nI_add T i) rfl ?_
    refine z_istore (lv' := [(6, .int (nI (T + i))), (0, .ref (a 0)), (1, .ref (ta 0)), (2, .int (nI g)), (3, .int (nI T)), (4, .int (nI k)), (5, .int (nI i))]) (n := 16) hC dX0_playAlone_14 (by decide) rfl rfl ?_
    refine z_aload_n (n := 17) hC dX0_playAlone_16 rfl 1 rfl rfl ?_
    refine z_iload_n (n := 18) hC dX0_playAlone_17 rfl 3 rfl rfl ?_
    refine z_aload_n (n := 19) hC dX0_playAlone_18 rfl 2 rfl rfl ?_
    refine z_iload (n := 21) hC dX0_playAlone_19 0 rfl rfl ?_
    refine z_iload_n (n := 22) hC dX0_playAlone_21 rfl 3 rfl rfl ?_
    refine z_calli (R := { frames := 4, cells := 0, slots := 0, locals := 87 }) (cells := 0) (slots := 0) (ws := (wS a cI cZ sw st (upd fa g (ruQ (sw g) (st g) b r T g (sc g, fi g, mi g, fa g) i).2.2.2) (upd sc g (ruQ (sw g) (st g) b r T g (sc g, fi g, mi g, fa g) i).1) (upd fi g (ruQ (sw g) (st g) b r T g (sc g, fi g, mi g, fa g) i).2.1) (upd mi g (ruQ (sw g) (st g) b r T g (sc g, fi g, mi g, fa g) i).2.2.1) lf hi n) ++ (wT ta cI b r)) (n := 25) (As := [.int (nI (T + i)), .int (nI g)]) (rest := [.int (nI g), .ref (a 0)]) hC (k_X1_amountIn l G cI cZ cJ ta b r (T + i) g (by omega) (by omega)) kg_X0_48 kd_yX1_amountIn dX0_playAlone_22 ⟨Nat.le_of_ble_eq_true rfl, Nat.le_of_ble_eq_true rfl⟩ 0 rfl rfl rfl [9, 10, 11] rfl (by decide) rfl (Nat.le_of_ble_eq_true rfl) ⟨Nat.le_of_ble_eq_true rfl, Nat.le_of_ble_eq_true rfl⟩ (ws2 := fun u2 => (wS a cI cZ sw st (upd fa g (ruQ (sw g) (st g) b r T g (sc g, fi g, mi g, fa g) i).2.2.2) (upd sc g (ruQ (sw g) (st g) b r T g (sc g, fi g, mi g, fa g) i).1) (upd fi g (ruQ (sw g) (st g) b r T g (sc g, fi g, mi g, fa g) i).2.1) (upd mi g (ruQ (sw g) (st g) b r T g (sc g, fi g, mi g, fa g) i).2.2.1) lf hi n) ++ (wT ta cI b r)) [0, 1, 2, 3, 4, 5, 6, 7, 8] (fun _ => rfl) (wS a cI cZ sw st (upd fa g (ruQ (sw g) (st g) b r T g (sc g, fi g, mi g, fa g) i).2.2.2) (upd sc g (ruQ (sw g) (st g) b r T g (sc g, fi g, mi g, fa g) i).1) (upd fi g (ruQ (sw g) (st g) b r T g (sc g, fi g, mi g, fa g) i).2.1) (upd mi g (ruQ (sw g) (st g) b r T g (sc g, fi g, mi g, fa g) i).2.2.1) lf hi n) (fun _ => rfl) rfl (fun _ => rfl) [ta 0, ta 1, ta 2] (fun _ => rfl) rfl rfl rfl (fun r3 u2 h4 => ?_)
    subst h4
    refine z_callv (R := { frames := 4, cells := 0, slots := 0, locals := 87 }) (cells := 0) (slots := 0) (ws := (wS a cI cZ sw st (upd fa g (ruQ (sw g) (st g) b r T g (sc g, fi g, mi g, fa g) i).2.2.2) (upd sc g (ruQ (sw g) (st g) b r T g (sc g, fi g, mi g, fa g) i).1) (upd fi g (ruQ (sw g) (st g) b r T g (sc g, fi g, mi g, fa g) i).2.1) (upd mi g (ruQ (sw g) (st g) b r T g (sc g, fi g, mi g, fa g) i).2.2.1) lf hi n) ++ (wT ta cI b r)) (n := 28) (As := [.int (nI g), .int (amF b r (T + i) g)]) (rest := []) hC (k_X0_shoot l G cI cZ cJ a sw st (upd fa g (ruQ (sw g) (st g) b r T g (sc g, fi g, mi g, fa g) i).2.2.2) (upd sc g (ruQ (sw g) (st g) b r T g (sc g, fi g, mi g, fa g) i).1) (upd fi g (ruQ (sw g) (st g) b r T g (sc g, fi g, mi g, fa g) i).2.1) (upd mi g (ruQ (sw g) (st g) b r T g (sc g, fi g, mi g, fa g) i).2.2.1) lf hi n g (amF b r (T + i) g) (by omega)) kg_X0_53 kd_yX0_shoot dX0_playAlone_25 ⟨Nat.le_of_ble_eq_true rfl, Nat.le_of_ble_eq_true rfl⟩ 0 rfl rfl rfl [0, 1, 2, 3, 4, 5, 6, 7, 8] rfl (by decide) rfl (Nat.le_of_ble_eq_true rfl) ⟨Nat.le_of_ble_eq_true rfl, Nat.le_of_ble_eq_true rfl⟩ (ws2 := fun u5 => (wS a cI cZ sw st (upd (upd fa g (ruQ (sw g) (st g) b r T g (sc g, fi g, mi g, fa g) i).2.2.2) g (shQ (ouF (sw g) (st g) ((upd fa g (ruQ (sw g) (st g) b r T g (sc g, fi g, mi g, fa g) i).2.2.2) g) (amF b r (T + i) g)) ((upd sc g (ruQ (sw g) (st g) b r T g (sc g, fi g, mi g, fa g) i).1) g, (upd fi g (ruQ (sw g) (st g) b r T g (sc g, fi g, mi g, fa g) i).2.1) g, (upd mi g (ruQ (sw g) (st g) b r T g (sc g, fi g, mi g, fa g) i).2.2.1) g, (upd fa g (ruQ (sw g) (st g) b r T g (sc g, fi g, mi g, fa g) i).2.2.2) g)).2.2.2) (upd (upd sc g (ruQ (sw g) (st g) b r T g (sc g, fi g, mi g, fa g) i).1) g (shQ (ouF (sw g) (st g) ((upd fa g (ruQ (sw g) (st g) b r T g (sc g, fi g, mi g, fa g) i).2.2.2) g) (amF b r (T + i) g)) ((upd sc g (ruQ (sw g) (st g) b r T g (sc g, fi g, mi g, fa g) i).1) g, (upd fi g (ruQ (sw g) (st g) b r T g (sc g, fi g, mi g, fa g) i).2.1) g, (upd mi g (ruQ (sw g) (st g) b r T g (sc g, fi g, mi g, fa g) i).2.2.1) g, (upd fa g (ruQ (sw g) (st g) b r T g (sc g, fi g, mi g, fa g) i).2.2.2) g)).1) (upd (upd fi g (ruQ (sw g) (st g) b r T g (sc g, fi g, mi g, fa g) i).2.1) g (shQ (ouF (sw g) (st g) ((upd fa g (ruQ (sw g) (st g) b r T g (sc g, fi g, mi g, fa g) i).2.2.2) g) (amF b r (T + i) g)) ((upd sc g (ruQ (sw g) (st g) b r T g (sc g, fi g, mi g, fa g) i).1) g, (upd fi g (ruQ (sw g) (st g) b r T g (sc g, fi g, mi g, fa g) i).2.1) g, (upd mi g (ruQ (sw g) (st g) b r T g (sc g, fi g, mi g, fa g) i).2.2.1) g, (upd fa g (ruQ (sw g) (st g) b r T g (sc g, fi g, mi g, fa g) i).2.2.2) g)).2.1) (upd (upd mi g (ruQ (sw g) (st g) b r T g (sc g, fi g, mi g, fa g) i).2.2.1) g (shQ (ouF (sw g) (st g) ((upd fa g (ruQ (sw g) (st g) b r T g (sc g, fi g, mi g, fa g) i).2.2.2) g) (amF b r (T + i) g)) ((upd sc g (ruQ (sw g) (st g) b r T g (sc g, fi g, mi g, fa g) i).1) g, (upd fi g (ruQ (sw g) (st g) b r T g (sc g, fi g, mi g, fa g) i).2.1) g, (upd mi g (ruQ (sw g) (st g) b r T g (sc g, fi g, mi g, fa g) i).2.2.1) g, (upd fa g (ruQ (sw g) (st g) b r T g (sc g, fi g, mi g, fa g) i).2.2.2) g)).2.2.1) lf hi n) ++ (wT ta cI b r)) [9, 10, 11] (fun _ => rfl) (wT ta cI b r) (fun _ => rfl) rfl (fun _ => rfl) [a 0, a 1, a 2, a 3, a 4, a 5, a 6, a 7, a 8] (fun _ => rfl) rfl rfl rfl (fun u5 h7 => ?_)
    refine z_weq (ws' := (wS a cI cZ sw st (upd fa g (shQ (ouF (sw g) (st g) (ruQ (sw g) (st g) b r T g (sc g, fi g, mi g, fa g) i).2.2.2 (amF b r (T + i) g)) (ruQ (sw g) (st g) b r T g (sc g, fi g, mi g, fa g) i)).2.2.2) (upd sc g (shQ (ouF (sw g) (st g) (ruQ (sw g) (st g) b r T g (sc g, fi g, mi g, fa g) i).2.2.2 (amF b r (T + i) g)) (ruQ (sw g) (st g) b r T g (sc g, fi g, mi g, fa g) i)).1) (upd fi g (shQ (ouF (sw g) (st g) (ruQ (sw g) (st g) b r T g (sc g, fi g, mi g, fa g) i).2.2.2 (amF b r (T + i) g)) (ruQ (sw g) (st g) b r T g (sc g, fi g, mi g, fa g) i)).2.1) (upd mi g (shQ (ouF (sw g) (st g) (ruQ (sw g) (st g) b r T g (sc g, fi g, mi g, fa g) i).2.2.2 (amF b r (T + i) g)) (ruQ (sw g) (st g) b r T g (sc g, fi g, mi g, fa g) i)).2.2.1) lf hi n) ++ (wT ta cI b r)) (by simp only [upd_upd, pk_us]) ?_
    refine z_iload (n := 30) hC dX0_playAlone_28 0 rfl rfl ?_
    refine z_callsiN (R := { frames := 4, cells := 0, slots := 0, locals := 87 }) (cells := 0) (slots := 0) (ws := (wS a cI cZ sw st (upd fa g (shQ (ouF (sw g) (st g) (ruQ (sw g) (st g) b r T g (sc g, fi g, mi g, fa g) i).2.2.2 (amF b r (T + i) g)) (ruQ (sw g) (st g) b r T g (sc g, fi g, mi g, fa g) i)).2.2.2) (upd sc g (shQ (ouF (sw g) (st g) (ruQ (sw g) (st g) b r T g (sc g, fi g, mi g, fa g) i).2.2.2 (amF b r (T + i) g)) (ruQ (sw g) (st g) b r T g (sc g, fi g, mi g, fa g) i)).1) (upd fi g (shQ (ouF (sw g) (st g) (ruQ (sw g) (st g) b r T g (sc g, fi g, mi g, fa g) i).2.2.2 (amF b r (T + i) g)) (ruQ (sw g) (st g) b r T g (sc g, fi g, mi g, fa g) i)).2.1) (upd mi g (shQ (ouF (sw g) (st g) (ruQ (sw g) (st g) b r T g (sc g, fi g, mi g, fa g) i).2.2.2 (amF b r (T + i) g)) (ruQ (sw g) (st g) b r T g (sc g, fi g, mi g, fa g) i)).2.2.1) lf hi n) ++ (wT ta cI b r)) (n := 33) (As := [.int (nI (T + i))]) (rest := []) hC (k_X2_clayIn l G cI cZ cJ (T + i) (by omega)) kg_X0_57 (by simp [zNW]) q175 q57 kd_yX2_clayIn dX0_playAlone_30 ⟨Nat.le_of_ble_eq_true rfl, Nat.le_of_ble_eq_true rfl⟩ [] rfl (by decide) rfl (Nat.le_of_ble_eq_true rfl) ⟨Nat.le_of_ble_eq_true rfl, Nat.le_of_ble_eq_true rfl⟩ (ws2 := fun u8 => (wS a cI cZ sw st (upd fa g (shQ (ouF (sw g) (st g) (ruQ (sw g) (st g) b r T g (sc g, fi g, mi g, fa g) i).2.2.2 (amF b r (T + i) g)) (ruQ (sw g) (st g) b r T g (sc g, fi g, mi g, fa g) i)).2.2.2) (upd sc g (shQ (ouF (sw g) (st g) (ruQ (sw g) (st g) b r T g (sc g, fi g, mi g, fa g) i).2.2.2 (amF b r (T + i) g)) (ruQ (sw g) (st g) b r T g (sc g, fi g, mi g, fa g) i)).1) (upd fi g (shQ (ouF (sw g) (st g) (ruQ (sw g) (st g) b r T g (sc g, fi g, mi g, fa g) i).2.2.2 (amF b r (T + i) g)) (ruQ (sw g) (st g) b r T g (sc g, fi g, mi g, fa g) i)).2.1) (upd mi g (shQ (ouF (sw g) (st g) (ruQ (sw g) (st g) b r T g (sc g, fi g, mi g, fa g) i).2.2.2 (amF b r (T + i) g)) (ruQ (sw g) (st g) b r T g (sc g, fi g, mi g, fa g) i)).2.2.1) lf hi n) ++ (wT ta cI b r)) [0, 1, 2, 3, 4, 5, 6, 7, 8, 9, 10, 11] (fun _ => rfl) ((wS a cI cZ sw st (upd fa g (shQ (ouF (sw g) (st g) (ruQ (sw g) (st g) b r T g (sc g, fi g, mi g, fa g) i).2.2.2 (amF b r (T + i) g)) (ruQ (sw g) (st g) b r T g (sc g, fi g, mi g, fa g) i)).2.2.2) (upd sc g (shQ (ouF (sw g) (st g) (ruQ (sw g) (st g) b r T g (sc g, fi g, mi g, fa g) i).2.2.2 (amF b r (T + i) g)) (ruQ (sw g) (st g) b r T g (sc g, fi g, mi g, fa g) i)).1) (upd fi g (shQ (ouF (sw g) (st g) (ruQ (sw g) (st g) b r T g (sc g, fi g, mi g, fa g) i).2.2.2 (amF b r (T + i) g)) (ruQ (sw g) (st g) b r T g (sc g, fi g, mi g, fa g) i)).2.1) (upd mi g (shQ (ouF (sw g) (st g) (ruQ (sw g) (st g) b r T g (sc g, fi g, mi g, fa g) i).2.2.2 (amF b r (T + i) g)) (ruQ (sw g) (st g) b r T g (sc g, fi g, mi g, fa g) i)).2.2.1) lf hi n) ++ (wT ta cI b r)) (fun _ => rfl) rfl (fun _ => rfl) [] (fun _ => rfl) rfl rfl rfl (fun r9 u8 h10 => ?_)
    subst h10
    refine z_iconst (v := nI 4) (n := 34) hC dX0_playAlone_33 (by decide) rfl ?_
    refine z_icmp_ne_n (tgt := 55) (n := 37) hC ((T + i) % 5) 4 rfl rfl (by omega) (by omega) dX0_playAlone_34 (by decide) rfl (fun c11 => ?_) (fun c11 => ?_)
    · refine z_iinc (k0 := 6) (v := nI (i + 1)) (lv' := [(5, .int (nI (i + 1))), (6, .int (nI (T + i))), (0, .ref (a 0)), (1, .ref (ta 0)), (2, .int (nI g)), (3, .int (nI T)), (4, .int (nI k))]) (n := 58) hC dX0_playAlone_55 rfl (nI_add i 1) (by decide) rfl rfl ?_
      refine z_goto (n := 3) hC dX0_playAlone_58 (by decide) ?_
      refine z_lv [2, 3, 4, 5, 6, 0] (lv' := [(0, .ref (a 0)), (1, .ref (ta 0)), (2, .int (nI g)), (3, .int (nI T)), (4, .int (nI k)), (5, .int (nI (i + 1)))]) rfl ?_
      refine z_weq (ws' := (wS a cI cZ sw st (upd fa g (ruQ (sw g) (st g) b r T g (sc g, fi g, mi g, fa g) (i + 1)).2.2.2) (upd sc g (ruQ (sw g) (st g) b r T g (sc g, fi g, mi g, fa g) (i + 1)).1) (upd fi g (ruQ (sw g) (st g) b r T g (sc g, fi g, mi g, fa g) (i + 1)).2.1) (upd mi g (ruQ (sw g) (st g) b r T g (sc g, fi g, mi g, fa g) (i + 1)).2.2.1) lf hi n) ++ (wT ta cI b r)) (by simp only [ruQ, tuQ, if_pos c1, if_neg c11]) ?_
      exact ih (i + 1) (by omega) (by omega)
    · refine z_aload_n (n := 38) hC dX0_playAlone_37 rfl 1 rfl rfl ?_
      refine gf_X0_18 (v := .ref (a 3)) (n := 41) hC 0 rfl rfl dX0_playAlone_38 rfl ?_
      refine z_iload_n (n := 42) hC dX0_playAlone_41 rfl 3 rfl rfl ?_
      refine z_iconst (v := nI 0) (n := 43) hC dX0_playAlone_42 (by decide) rfl ?_
      refine z_aload_n (n := 44) hC dX0_playAlone_43 rfl 1 rfl rfl ?_
      refine gf_X0_18 (v := .ref (a 3)) (n := 47) hC 0 rfl rfl dX0_playAlone_44 rfl ?_
      refine z_iload_n (n := 48) hC dX0_playAlone_47 rfl 3 rfl rfl ?_
      refine z_iald (v := (shQ (ouF (sw g) (st g) (ruQ (sw g) (st g) b r T g (sc g, fi g, mi g, fa g) i).2.2.2 (amF b r (T + i) g)) (ruQ (sw g) (st g) b r T g (sc g, fi g, mi g, fa g) i)).2.2.2) (n := 49) hC 3 0 g rfl rfl rfl (by omega) (by decide) dX0_playAlone_48 pk_us rfl ?_
      refine z_iconst (v := nI 3) (n := 50) hC dX0_playAlone_49 (by decide) rfl ?_
      refine z_isub (v := ((shQ (ouF (sw g) (st g) (ruQ (sw g) (st g) b r T g (sc g, fi g, mi g, fa g) i).2.2.2 (amF b r (T + i) g)) (ruQ (sw g) (st g) b r T g (sc g, fi g, mi g, fa g) i)).2.2.2) - (nI 3)) (n := 51) hC dX0_playAlone_50 rfl rfl ?_
      refine z_mmax (v := maxF (nI 0) (((shQ (ouF (sw g) (st g) (ruQ (sw g) (st g) b r T g (sc g, fi g, mi g, fa g) i).2.2.2 (amF b r (T + i) g)) (ruQ (sw g) (st g) b r T g (sc g, fi g, mi g, fa g) i)).2.2.2) - (nI 3))) (n := 54) hC q189 q638 q173 q640 (by decide) (Nat.le_of_ble_eq_true rfl) (by omega) (by omega) dX0_playAlone_51 rfl rfl ?_
      refine z_iast (ws' := (wS a cI cZ sw st (upd fa g (maxF (nI 0) (((shQ (ouF (sw g) (st g) (ruQ (sw g) (st g) b r T g (sc g, fi g, mi g, fa g) i).2.2.2 (amF b r (T + i) g)) (ruQ (sw g) (st g) b r T g (sc g, fi g, mi g, fa g) i)).2.2.2) - (nI 3)))) (upd sc g (shQ (ouF (sw g) (st g) (ruQ (sw g) (st g) b r T g (sc g, fi g, mi g, fa g) i).2.2.2 (amF b r (T + i) g)) (ruQ (sw g) (st g) b r T g (sc g, fi g, mi g, fa g) i)).1) (upd fi g (shQ (ouF (sw g) (st g) (ruQ (sw g) (st g) b r T g (sc g, fi g, mi g, fa g) i).2.2.2 (amF b r (T + i) g)) (ruQ (sw g) (st g) b r T g (sc g, fi g, mi g, fa g) i)).2.1) (upd mi g (shQ (ouF (sw g) (st g) (ruQ (sw g) (st g) b r T g (sc g, fi g, mi g, fa g) i).2.2.2 (amF b r (T + i) g)) (ruQ (sw g) (st g) b r T g (sc g, fi g, mi g, fa g) i)).2.2.1) lf hi n) ++ (wT ta cI b r)) (n := 55) hC 3 0 g rfl rfl rfl (by omega) (by decide) dX0_playAlone_54 upd_upd rfl rfl ?_
      refine z_iinc (k0 := 6) (v := nI (i + 1)) (lv' := [(5, .int (nI (i + 1))), (6, .int (nI (T + i))), (0, .ref (a 0)), (1, .ref (ta 0)), (2, .int (nI g)), (3, .int (nI T)), (4, .int (nI k))]) (n := 58) hC dX0_playAlone_55 rfl (nI_add i 1) (by decide) rfl rfl ?_
      refine z_goto (n := 3) hC dX0_playAlone_58 (by decide) ?_
      refine z_lv [2, 3, 4, 5, 6, 0] (lv' := [(0, .ref (a 0)), (1, .ref (ta 0)), (2, .int (nI g)), (3, .int (nI T)), (4, .int (nI k)), (5, .int (nI (i + 1)))]) rfl ?_
      refine z_weq (ws' := (wS a cI cZ sw st (upd fa g (ruQ (sw g) (st g) b r T g (sc g, fi g, mi g, fa g) (i + 1)).2.2.2) (upd sc g (ruQ (sw g) (st g) b r T g (sc g, fi g, mi g, fa g) (i + 1)).1) (upd fi g (ruQ (sw g) (st g) b r T g (sc g, fi g, mi g, fa g) (i + 1)).2.1) (upd mi g (ruQ (sw g) (st g) b r T g (sc g, fi g, mi g, fa g) (i + 1)).2.2.1) lf hi n) ++ (wT ta cI b r)) (by simp only [ruQ, tuQ, if_pos c1, if_pos c11]) ?_
      exact ih (i + 1) (by omega) (by omega)

set_option maxRecDepth 100000 in
set_option maxHeartbeats 4000000 in
/-- all guns through k turns; how many misses -/
theorem k_X0_play (l : Launch) (G : va_G) (cI cZ cJ : ClassId) (a : Nat → Nat) (sw : Nat → Int32) (st : Nat → Int32) (fa : Nat → Int32) (sc : Nat → Int32) (fi : Nat → Int32) (mi : Nat → Int32) (lf : Nat → Bool) (hi : Nat → Bool) (n : Nat) (ta : Nat → Nat) (b : Nat → Int32) (r : Nat → Int32) (T : Nat) (k : Nat) (hn : n ≤ 6) (hT : T + k < 2 ^ 30) : MI (Unit) l yX0_play cX0_play 7 5 113 G (tY cI cZ cJ) [.ref (a 0), .ref (ta 0), .int (nI T), .int (nI k)] ((wS a cI cZ sw st fa sc fi mi lf hi n) ++ (wT ta cI b r)) (fun zr _ => zr = smF (fun zj => plM sw st b r sc fi mi fa T k zj - mi zj) n) (fun _ => (wS a cI cZ sw st (pwF fa (plA sw st b r sc fi mi fa T k) n) (pwF sc (plS sw st b r sc fi mi fa T k) n) (pwF fi (plF sw st b r sc fi mi fa T k) n) (pwF mi (plM sw st b r sc fi mi fa T k) n) lf hi n) ++ (wT ta cI b r)) 0 0 := by
  refine MI_of (by decide) (Nat.le_of_ble_eq_true rfl) [(0, .ref (a 0)), (1, .ref (ta 0)), (2, .int (nI T)), (3, .int (nI k))] rfl ?_
  intro p e s m below meth c hC hr hlocks hname
  have hC : Cx p s m _ c cX0_play 7 RX0 G (tY cI cZ cJ) _ := hC
  refine z_iconst (v := nI 0) (n := 1) hC dX0_play_0 (by decide) rfl ?_
  refine z_istore (lv' := [(4, .int (nI 0)), (0, .ref (a 0)), (1, .ref (ta 0)), (2, .int (nI T)), (3, .int (nI k))]) (n := 3) hC dX0_play_1 (by decide) rfl rfl ?_
  refine z_iconst (v := nI 0) (n := 4) hC dX0_play_3 (by decide) rfl ?_
  refine z_istore (lv' := [(5, .int (nI 0)), (4, .int (nI 0)), (0, .ref (a 0)), (1, .ref (ta 0)), (2, .int (nI T)), (3, .int (nI k))]) (n := 6) hC dX0_play_4 (by decide) rfl rfl ?_
  refine z_lv [2, 3, 4, 5, 1, 0] (lv' := [(0, .ref (a 0)), (1, .ref (ta 0)), (2, .int (nI T)), (3, .int (nI k)), (4, .int (smF (fun zj => plM sw st b r sc fi mi fa T k zj - mi zj) 0)), (5, .int (nI 0))]) rfl ?_
  refine z_weq (ws' := (wS a cI cZ sw st (pwF fa (plA sw st b r sc fi mi fa T k) 0) (pwF sc (plS sw st b r sc fi mi fa T k) 0) (pwF fi (plF sw st b r sc fi mi fa T k) 0) (pwF mi (plM sw st b r sc fi mi fa T k) 0) lf hi n) ++ (wT ta cI b r)) (by simp only [pwF_0]) ?_
  refine z_loop n 0 (fun i => (wS a cI cZ sw st (pwF fa (plA sw st b r sc fi mi fa T k) i) (pwF sc (plS sw st b r sc fi mi fa T k) i) (pwF fi (plF sw st b r sc fi mi fa T k) i) (pwF mi (plM sw st b r sc fi mi fa T k) i) lf hi n) ++ (wT ta cI b r)) (fun i => [(0, .ref (a 0)), (1, .ref (ta 0)), (2, .int (nI T)), (3, .int (nI k)), (4, .int (smF (fun zj => plM sw st b r sc fi mi fa T k zj - mi zj) i)), (5, .int (nI i))]) (by omega) rfl rfl (fun i hi0 hi1 ih => ?_)
  refine z_iload (n := 8) hC dX0_play_6 5 rfl rfl ?_
  refine z_aload_n (n := 9) hC dX0_play_8 rfl 0 rfl rfl ?_
  refine gf_X0_37 (v := .int (nI n)) (n := 12) hC 0 rfl rfl dX0_play_9 rfl ?_
  refine z_icmp_ge_n (tgt := 54) (n := 15) hC i n rfl rfl (by omega) (by omega) dX0_play_12 (by decide) rfl (fun c1 => ?_) (fun c1 => ?_)
  · obtain rfl : n = i := by omega
    refine z_iload (n := 56) hC dX0_play_54 4 rfl rfl ?_
    refine z_iret hC hr hlocks () ?_ rfl dX0_play_56 (by omega) (by omega)
    rfl
  · refine z_aload_n (n := 16) hC dX0_play_15 rfl 0 rfl rfl ?_
    refine gf_X0_27 (v := .ref (a 6)) (n := 19) hC 0 rfl rfl dX0_play_16 rfl ?_
    refine z_iload (n := 21) hC dX0_play_19 5 rfl rfl ?_
    refine z_iald (v := mi i) (n := 22) hC 6 0 i rfl rfl rfl (by omega) (by decide) dX0_play_21 (pwF_at (Nat.le_refl _)) rfl ?_
    refine z_istore (lv' := [(6, .int (mi i)), (0, .ref (a 0)), (1, .ref (ta 0)), (2, .int (nI T)), (3, .int (nI k)), (4, .int (smF (fun zj => plM sw st b r sc fi mi fa T k zj - mi zj) i)), (5, .int (nI i))]) (n := 24) hC dX0_play_22 (by decide) rfl rfl ?_
    refine z_aload_n (n := 25) hC dX0_play_24 rfl 1 rfl rfl ?_
    refine z_aload_n (n := 26) hC dX0_play_25 rfl 2 rfl rfl ?_
    refine z_iload (n := 28) hC dX0_play_26 6 rfl rfl ?_
    refine z_iload_n (n := 29) hC dX0_play_28 rfl 3 rfl rfl ?_
    refine z_iload_n (n := 30) hC dX0_play_29 rfl 4 rfl rfl ?_
    refine z_callv (R := { frames := 5, cells := 0, slots := 0, locals := 113 }) (cells := 0) (slots := 0) (ws := (wS a cI cZ sw st (pwF fa (plA sw st b r sc fi mi fa T k) i) (pwF sc (plS sw st b r sc fi mi fa T k) i) (pwF fi (plF sw st b r sc fi mi fa T k) i) (pwF mi (plM sw st b r sc fi mi fa T k) i) lf hi n) ++ (wT ta cI b r)) (n := 33) (As := [.ref (ta 0), .int (nI i), .int (nI T), .int (nI k)]) (rest := []) hC (k_X0_playAlone l G cI cZ cJ a sw st (pwF fa (plA sw st b r sc fi mi fa T k) i) (pwF sc (plS sw st b r sc fi mi fa T k) i) (pwF fi (plF sw st b r sc fi mi fa T k) i) (pwF mi (plM sw st b r sc fi mi fa T k) i) lf hi n ta b r i T k (by omega) (by omega)) kg_X0_66 kd_yX0_playAlone dX0_play_30 ⟨Nat.le_of_ble_eq_true rfl, Nat.le_of_ble_eq_true rfl⟩ 0 rfl rfl rfl [0, 1, 2, 3, 4, 5, 6, 7, 8, 9, 10, 11] rfl (by decide) rfl (Nat.le_of_ble_eq_true rfl) ⟨Nat.le_of_ble_eq_true rfl, Nat.le_of_ble_eq_true rfl⟩ (ws2 := fun u2 => (wS a cI cZ sw st (upd (pwF fa (plA sw st b r sc fi mi fa T k) i) i (ruQ (sw i) (st i) b r T i ((pwF sc (plS sw st b r sc fi mi fa T k) i) i, (pwF fi (plF sw st b r sc fi mi fa T k) i) i, (pwF mi (plM sw st b r sc fi mi fa T k) i) i, (pwF fa (plA sw st b r sc fi mi fa T k) i) i) k).2.2.2) (upd (pwF sc (plS sw st b r sc fi mi fa T k) i) i (ruQ (sw i) (st i) b r T i ((pwF sc (plS sw st b r sc fi mi fa T k) i) i, (pwF fi (plF sw st b r sc fi mi fa T k) i) i, (pwF mi (plM sw st b r sc fi mi fa T k) i) i, (pwF fa (plA sw st b r sc fi mi fa T k) i) i) k).1) (upd (pwF fi (plF sw st b r sc fi mi fa T k) i) i (ruQ (sw i) (st i) b r T i ((pwF sc (plS sw st b r sc fi mi fa T k) i) i, (pwF fi (plF sw st b r sc fi mi fa T k) i) i, (pwF mi (plM sw st b r sc fi mi fa T k) i) i, (pwF fa (plA sw st b r sc fi mi fa T k) i) i) k).2.1) (upd (pwF mi (plM sw st b r sc fi mi fa T k) i) i (ruQ (sw i) (st i) b r T i ((pwF sc (plS sw st b r sc fi mi fa T k) i) i, (pwF fi (plF sw st b r sc fi mi fa T k) i) i, (pwF mi (plM sw st b r sc fi mi fa T k) i) i, (pwF fa (plA sw st b r sc fi mi fa T k) i) i) k).2.2.1) lf hi n) ++ (wT ta cI b r)) [] (fun _ => rfl) ([]) (fun _ => rfl) rfl (fun _ => rfl) [a 0, a 1, a 2, a 3, a 4, a 5, a 6, a 7, a 8, ta 0, ta 1, ta 2] (fun _ => rfl) rfl rfl rfl (fun u2 h4 => ?_)
    refine z_weq (ws' := (wS a cI cZ sw st (pwF fa (plA sw st b r sc fi mi fa T k) (i + 1)) (pwF sc (plS sw st b r sc fi mi fa T k) (i + 1)) (pwF fi (plF sw st b r sc fi mi fa T k) (i + 1)) (pwF mi (plM sw st b r sc fi mi fa T k) (i + 1)) lf hi n) ++ (wT ta cI b r)) (by rw [← pwF_s (f := sc), ← pwF_s (f := fi), ← pwF_s (f := mi), ← pwF_s (f := fa)]; simp only [pwF_at (Nat.le_refl _)]; rfl) ?_
    refine z_iload (n := 35) hC dX0_play_33 5 rfl rfl ?_
    refine z_aload_n (n := 36) hC dX0_play_35 rfl 1 rfl rfl ?_
    refine gf_X0_27 (v := .ref (a 6)) (n := 39) hC 0 rfl rfl dX0_play_36 rfl ?_
    refine z_iload (n := 41) hC dX0_play_39 6 rfl rfl ?_
    refine z_iald (v := (plM sw st b r sc fi mi fa T k) i) (n := 42) hC 6 0 i rfl rfl rfl (by omega) (by decide) dX0_play_41 (pwF_lt (Nat.lt_succ_self _)) rfl ?_
    refine z_iload (n := 44) hC dX0_play_42 0 rfl rfl ?_
    refine z_isub (v := ((plM sw st b r sc fi mi fa T k) i) - (mi i)) (n := 45) hC dX0_play_44 rfl rfl ?_
    refine z_iadd (v := (smF (fun zj => plM sw st b r sc fi mi fa T k zj - mi zj) i) + (((plM sw st b r sc fi mi fa T k) i) - (mi i))) (n := 46) hC dX0_play_45 rfl rfl ?_
    refine z_istore (lv' := [(4, .int ((smF (fun zj => plM sw st b r sc fi mi fa T k zj - mi zj) i) + (((plM sw st b r sc fi mi fa T k) i) - (mi i)))), (6, .int (mi i)), (0, .ref (a 0)), (1, .ref (ta 0)), (2, .int (nI T)), (3, .int (nI k)), (5, .int (nI i))]) (n := 48) hC dX0_play_46 (by decide) rfl rfl ?_
    refine z_iinc (k0 := 6) (v := nI (i + 1)) (lv' := [(5, .int (nI (i + 1))), (4, .int ((smF (fun zj => plM sw st b r sc fi mi fa T k zj - mi zj) i) + (((plM sw st b r sc fi mi fa T k) i) - (mi i)))), (6, .int (mi i)), (0, .ref (a 0)), (1, .ref (ta 0)), (2, .int (nI T)), (3, .int (nI k))]) (n := 51) hC dX0_play_48 rfl (nI_add i 1) (by decide) rfl rfl ?_
    refine z_goto (n := 6) hC dX0_play_51 (by decide) ?_
    refine z_lv [3, 4, 5, 6, 1, 0] (lv' := [(0, .ref (a 0)), (1, .ref (ta 0)), (2, .int (nI T)), (3, .int (nI k)), (4, .int (smF (fun zj => plM sw st b r sc fi mi fa T k zj - mi zj) (i + 1))), (5, .int (nI (i + 1)))]) rfl ?_
    exact ih (i + 1) (by omega) (by omega)

set_option maxRecDepth 100000 in
set_option maxHeartbeats 4000000 in
/-- the first gun of those with the greatest score -/
theorem k_X0_leading (l : Launch) (G : va_G) (cI cZ cJ : ClassId) (a : Nat → Nat) (sw : Nat → Int32) (st : Nat → Int32) (fa : Nat → Int32) (sc : Nat → Int32) (fi : Nat → Int32) (mi : Nat → Int32) (lf : Nat → Bool) (hi : Nat → Bool) (n : Nat) (hn : n ≤ 6) : MI (Unit) l yX0_leading cX0_leading 3 0 0 G (tY cI cZ cJ) [.ref (a 0)] (wS a cI cZ sw st fa sc fi mi lf hi n) (fun zr _ => zr = ldF sc n) (fun _ => wS a cI cZ sw st fa sc fi mi lf hi n) 0 0 := by
  refine MI_of (by decide) (Nat.le_of_ble_eq_true rfl) [(0, .ref (a 0))] rfl ?_
  intro p e s m below meth c hC hr hlocks hname
  have hC : Cx p s m _ c cX0_leading 3 RX0 G (tY cI cZ cJ) _ := hC
  refine z_iconst (v := (-1)) (n := 1) hC dX0_leading_0 (by decide) rfl ?_
  refine z_istore_n (lv' := [(1, .int (-1)), (0, .ref (a 0))]) (n := 2) hC dX0_leading_1 rfl (by decide) rfl rfl ?_
  refine z_iconst (v := nI 0) (n := 3) hC dX0_leading_2 (by decide) rfl ?_
  refine z_istore_n (lv' := [(2, .int (nI 0)), (1, .int (-1)), (0, .ref (a 0))]) (n := 4) hC dX0_leading_3 rfl (by decide) rfl rfl ?_
  refine z_lv [2, 1, 0] (lv' := [(0, .ref (a 0)), (1, .int (-1)), (2, .int (nI 0))]) rfl ?_
  refine z_leq (lv' := [(0, .ref (a 0)), (1, .int (ldF sc 0)), (2, .int (nI 0))]) (by rw [ldF_0 rfl]) ?_
  refine z_loop n 0 (fun i => wS a cI cZ sw st fa sc fi mi lf hi n) (fun i => [(0, .ref (a 0)), (1, .int (ldF sc i)), (2, .int (nI i))]) (by omega) rfl rfl (fun i hi0 hi1 ih => ?_)
  refine z_iload_n (n := 5) hC dX0_leading_4 rfl 2 rfl rfl ?_
  refine z_aload_n (n := 6) hC dX0_leading_5 rfl 0 rfl rfl ?_
  refine gf_X0_37 (v := .int (nI n)) (n := 9) hC 0 rfl rfl dX0_leading_6 rfl ?_
  refine z_icmp_ge_n (tgt := 40) (n := 12) hC i n rfl rfl (by omega) (by omega) dX0_leading_9 (by decide) rfl (fun c1 => ?_) (fun c1 => ?_)
  · obtain rfl : n = i := by omega
    refine z_iload_n (n := 41) hC dX0_leading_40 rfl 1 rfl rfl ?_
    refine z_iret hC hr hlocks () ?_ rfl dX0_leading_41 (by omega) (by omega)
    rfl
  · rcases Nat.eq_zero_or_pos i with h0 | h0
    · refine z_leq (lv' := [(0, .ref (a 0)), (1, .int (-1)), (2, .int (nI i))]) (by rw [ldF_0 h0]) ?_
      refine z_iload_n (n := 13) hC dX0_leading_12 rfl 1 rfl rfl ?_
      refine z_iconst (v := (-1)) (n := 14) hC dX0_leading_13 (by decide) rfl ?_
      refine z_icmp_eq (tgt := 32) (n := 17) hC dX0_leading_14 (by decide) rfl (fun c2 => ?_) (fun c2 => absurd rfl c2)
      refine z_iload_n (n := 33) hC dX0_leading_32 rfl 2 rfl rfl ?_
      refine z_istore_n (lv' := [(1, .int (nI i)), (0, .ref (a 0)), (2, .int (nI i))]) (n := 34) hC dX0_leading_33 rfl (by decide) rfl rfl ?_
      refine z_iinc (k0 := 2) (v := nI (i + 1)) (lv' := [(2, .int (nI (i + 1))), (1, .int (nI i)), (0, .ref (a 0))]) (n := 37) hC dX0_leading_34 rfl (nI_add i 1) (by decide) rfl rfl ?_
      refine z_goto (n := 4) hC dX0_leading_37 (by decide) ?_
      refine z_lv [2, 1, 0] (lv' := [(0, .ref (a 0)), (1, .int (nI i)), (2, .int (nI (i + 1)))]) rfl ?_
      refine z_leq (lv' := [(0, .ref (a 0)), (1, .int (ldF sc (i + 1))), (2, .int (nI (i + 1)))]) (by rw [ldF_1 h0]) ?_
      exact ih (i + 1) (by omega) (by omega)
    · have hle := leF_le sc (i - 1)
      refine z_leq (lv' := [(0, .ref (a 0)), (1, .int (nI (leF sc (i - 1)))), (2, .int (nI i))]) (by rw [ldF_pos h0]) ?_
      refine z_iload_n (n := 13) hC dX0_leading_12 rfl 1 rfl rfl ?_
      refine z_iconst (v := (-1)) (n := 14) hC dX0_leading_13 (by decide) rfl ?_
      refine z_icmp_eq (tgt := 32) (n := 17) hC dX0_leading_14 (by decide) rfl (fun c3 => absurd c3 (nI_m1 (by omega))) (fun c3 => ?_)
      refine z_aload_n (n := 18) hC dX0_leading_17 rfl 0 rfl rfl ?_
      refine gf_X0_21 (v := .ref (a 4)) (n := 21) hC 0 rfl rfl dX0_leading_18 rfl ?_
      refine z_iload_n (n := 22) hC dX0_leading_21 rfl 2 rfl rfl ?_
      refine z_iald (v := sc i) (n := 23) hC 4 0 i rfl rfl rfl (by omega) (by decide) dX0_leading_22 rfl rfl ?_
      refine z_aload_n (n := 24) hC dX0_leading_23 rfl 0 rfl rfl ?_
      refine gf_X0_21 (v := .ref (a 4)) (n := 27) hC 0 rfl rfl dX0_leading_24 rfl ?_
      refine z_iload_n (n := 28) hC dX0_leading_27 rfl 1 rfl rfl ?_
      refine z_iald (v := sc (leF sc (i - 1))) (n := 29) hC 4 0 (leF sc (i - 1)) rfl rfl rfl (by omega) (by decide) dX0_leading_28 rfl rfl ?_
      refine z_icmp_le (tgt := 34) (n := 32) hC dX0_leading_29 (by decide) rfl (fun c4 => ?_) (fun c4 => ?_)
      · refine z_iinc (k0 := 2) (v := nI (i + 1)) (lv' := [(2, .int (nI (i + 1))), (0, .ref (a 0)), (1, .int (nI (leF sc (i - 1))))]) (n := 37) hC dX0_leading_34 rfl (nI_add i 1) (by decide) rfl rfl ?_
        refine z_goto (n := 4) hC dX0_leading_37 (by decide) ?_
        refine z_lv [1, 2, 0] (lv' := [(0, .ref (a 0)), (1, .int (nI (leF sc (i - 1)))), (2, .int (nI (i + 1)))]) rfl ?_
        refine z_leq (lv' := [(0, .ref (a 0)), (1, .int (ldF sc (i + 1))), (2, .int (nI (i + 1)))]) (by rw [ldF_keep h0 c4]) ?_
        exact ih (i + 1) (by omega) (by omega)
      · refine z_iload_n (n := 33) hC dX0_leading_32 rfl 2 rfl rfl ?_
        refine z_istore_n (lv' := [(1, .int (nI i)), (0, .ref (a 0)), (2, .int (nI i))]) (n := 34) hC dX0_leading_33 rfl (by decide) rfl rfl ?_
        refine z_iinc (k0 := 2) (v := nI (i + 1)) (lv' := [(2, .int (nI (i + 1))), (1, .int (nI i)), (0, .ref (a 0))]) (n := 37) hC dX0_leading_34 rfl (nI_add i 1) (by decide) rfl rfl ?_
        refine z_goto (n := 4) hC dX0_leading_37 (by decide) ?_
        refine z_lv [2, 1, 0] (lv' := [(0, .ref (a 0)), (1, .int (nI i)), (2, .int (nI (i + 1)))]) rfl ?_
        refine z_leq (lv' := [(0, .ref (a 0)), (1, .int (ldF sc (i + 1))), (2, .int (nI (i + 1)))]) (by rw [ldF_take h0 c4]) ?_
        exact ih (i + 1) (by omega) (by omega)

set_option maxRecDepth 100000 in
set_option maxHeartbeats 4000000 in
/-- how many have the greatest score -/
theorem k_X0_countTied (l : Launch) (G : va_G) (cI cZ cJ : ClassId) (a : Nat → Nat) (sw : Nat → Int32) (st : Nat → Int32) (fa : Nat → Int32) (sc : Nat → Int32) (fi : Nat → Int32) (mi : Nat → Int32) (lf : Nat → Bool) (hi : Nat → Bool) (n : Nat) (hn : n ≤ 6) : MI (Unit) l yX0_countTied cX0_countTied 4 1 22 G (tY cI cZ cJ) [.ref (a 0)] (wS a cI cZ sw st fa sc fi mi lf hi n) (fun zr _ => zr = nI (ctF (fun zj => decide (sc zj = sc (leF sc (n - 1)))) n)) (fun _ => wS a cI cZ sw st fa sc fi mi lf hi n) 0 0 := by
  refine MI_of (by decide) (Nat.le_of_ble_eq_true rfl) [(0, .ref (a 0))] rfl ?_
  intro p e s m below meth c hC hr hlocks hname
  have hC : Cx p s m _ c cX0_countTied 4 RX0 G (tY cI cZ cJ) _ := hC
  refine z_aload_n (n := 1) hC dX0_countTied_0 rfl 0 rfl rfl ?_
  refine z_calli (R := { frames := 1, cells := 0, slots := 0, locals := 22 }) (cells := 0) (slots := 0) (ws := wS a cI cZ sw st fa sc fi mi lf hi n) (n := 4) (As := []) (rest := []) hC (k_X0_leading l G cI cZ cJ a sw st fa sc fi mi lf hi n (by omega)) kg_X0_70 kd_yX0_leading dX0_countTied_1 ⟨Nat.le_of_ble_eq_true rfl, Nat.le_of_ble_eq_true rfl⟩ 0 rfl rfl rfl [0, 1, 2, 3, 4, 5, 6, 7, 8] rfl (by decide) rfl (Nat.le_of_ble_eq_true rfl) ⟨Nat.le_of_ble_eq_true rfl, Nat.le_of_ble_eq_true rfl⟩ (ws2 := fun u1 => wS a cI cZ sw st fa sc fi mi lf hi n) [] (fun _ => rfl) ([]) (fun _ => rfl) rfl (fun _ => rfl) [a 0, a 1, a 2, a 3, a 4, a 5, a 6, a 7, a 8] (fun _ => rfl) rfl rfl rfl (fun r2 u1 h3 => ?_)
  subst h3
  refine z_istore_n (lv' := [(1, .int (ldF sc n)), (0, .ref (a 0))]) (n := 5) hC dX0_countTied_4 rfl (by decide) rfl rfl ?_
  refine z_iconst (v := nI 0) (n := 6) hC dX0_countTied_5 (by decide) rfl ?_
  refine z_istore_n (lv' := [(2, .int (nI 0)), (1, .int (ldF sc n)), (0, .ref (a 0))]) (n := 7) hC dX0_countTied_6 rfl (by decide) rfl rfl ?_
  refine z_iconst (v := nI 0) (n := 8) hC dX0_countTied_7 (by decide) rfl ?_
  refine z_istore_n (lv' := [(3, .int (nI 0)), (2, .int (nI 0)), (1, .int (ldF sc n)), (0, .ref (a 0))]) (n := 9) hC dX0_countTied_8 rfl (by decide) rfl rfl ?_
  refine z_lv [3, 2, 1, 0] (lv' := [(0, .ref (a 0)), (1, .int (ldF sc n)), (2, .int (nI (ctF (fun zj => decide (sc zj = sc (leF sc (n - 1)))) 0))), (3, .int (nI 0))]) rfl ?_
  refine z_loop n 0 (fun i => wS a cI cZ sw st fa sc fi mi lf hi n) (fun i => [(0, .ref (a 0)), (1, .int (ldF sc n)), (2, .int (nI (ctF (fun zj => decide (sc zj = sc (leF sc (n - 1)))) i))), (3, .int (nI i))]) (by omega) rfl rfl (fun i hi0 hi1 ih => ?_)
  have hct := ctF_le (fun zj => decide (sc zj = sc (leF sc (n - 1)))) i
  refine z_iload_n (n := 10) hC dX0_countTied_9 rfl 3 rfl rfl ?_
  refine z_aload_n (n := 11) hC dX0_countTied_10 rfl 0 rfl rfl ?_
  refine gf_X0_37 (v := .int (nI n)) (n := 14) hC 0 rfl rfl dX0_countTied_11 rfl ?_
  refine z_icmp_ge_n (tgt := 46) (n := 17) hC i n rfl rfl (by omega) (by omega) dX0_countTied_14 (by decide) rfl (fun c4 => ?_) (fun c4 => ?_)
  · obtain rfl : n = i := by omega
    refine z_iload_n (n := 47) hC dX0_countTied_46 rfl 2 rfl rfl ?_
    refine z_iret hC hr hlocks () ?_ rfl dX0_countTied_47 (by omega) (by omega)
    rfl
  · have h0 : 0 < n := by omega
    have hle := leF_le sc (n - 1)
    refine z_leq (lv' := [(0, .ref (a 0)), (1, .int (nI (leF sc (n - 1)))), (2, .int (nI (ctF (fun zj => decide (sc zj = sc (leF sc (n - 1)))) i))), (3, .int (nI i))]) (by rw [ldF_pos h0]) ?_
    refine z_iload_n (n := 18) hC dX0_countTied_17 rfl 1 rfl rfl ?_
    refine z_iconst (v := (-1)) (n := 19) hC dX0_countTied_18 (by decide) rfl ?_
    refine z_icmp_eq (tgt := 40) (n := 22) hC dX0_countTied_19 (by decide) rfl (fun c5 => absurd c5 (nI_m1 (by omega))) (fun c5 => ?_)
    refine z_aload_n (n := 23) hC dX0_countTied_22 rfl 0 rfl rfl ?_
    refine gf_X0_21 (v := .ref (a 4)) (n := 26) hC 0 rfl rfl dX0_countTied_23 rfl ?_
    refine z_iload_n (n := 27) hC dX0_countTied_26 rfl 3 rfl rfl ?_
    refine z_iald (v := sc i) (n := 28) hC 4 0 i rfl rfl rfl (by omega) (by decide) dX0_countTied_27 rfl rfl ?_
    refine z_aload_n (n := 29) hC dX0_countTied_28 rfl 0 rfl rfl ?_
    refine gf_X0_21 (v := .ref (a 4)) (n := 32) hC 0 rfl rfl dX0_countTied_29 rfl ?_
    refine z_iload_n (n := 33) hC dX0_countTied_32 rfl 1 rfl rfl ?_
    refine z_iald (v := sc (leF sc (n - 1))) (n := 34) hC 4 0 (leF sc (n - 1)) rfl rfl rfl (by omega) (by decide) dX0_countTied_33 rfl rfl ?_
    refine z_icmp_ne (tgt := 40) (n := 37) hC dX0_countTied_34 (by decide) rfl (fun c6 => ?_) (fun c6 => ?_)
    · refine z_iinc (k0 := 3) (v := nI (i + 1)) (lv' := [(3, .int (nI (i + 1))), (0, .ref (a 0)), (1, .int (nI (leF sc (n - 1)))), (2, .int (nI (ctF (fun zj => decide (sc zj = sc (leF sc (n - 1)))) i)))]) (n := 43) hC dX0_countTied_40 rfl (nI_add i 1) (by decide) rfl rfl ?_
      refine z_goto (n := 9) hC dX0_countTied_43 (by decide) ?_
      refine z_lv [1, 2, 3, 0] (lv' := [(0, .ref (a 0)), (1, .int (nI (leF sc (n - 1)))), (2, .int (nI (ctF (fun zj => decide (sc zj = sc (leF sc (n - 1)))) i))), (3, .int (nI (i + 1)))]) rfl ?_
      refine z_leq (lv' := [(0, .ref (a 0)), (1, .int (ldF sc n)), (2, .int (nI (ctF (fun zj => decide (sc zj = sc (leF sc (n - 1)))) (i + 1)))), (3, .int (nI (i + 1)))]) (by rw [ldF_pos h0]; simp only [ctF, decide_eq_true_eq, if_pos c4, if_neg c6, Nat.add_zero]) ?_
      exact ih (i + 1) (by omega) (by omega)
    · refine z_iinc (k0 := 2) (v := nI (ctF (fun zj => decide (sc zj = sc (leF sc (n - 1)))) i + 1)) (lv' := [(2, .int (nI (ctF (fun zj => decide (sc zj = sc (leF sc (n - 1)))) i + 1))), (0, .ref (a 0)), (1, .int (nI (leF sc (n - 1)))), (3, .int (nI i))]) (n := 40) hC dX0_countTied_37 rfl (nI_add (ctF (fun zj => decide (sc zj = sc (leF sc (n - 1)))) i) 1) (by decide) rfl rfl ?_
      refine z_iinc (k0 := 3) (v := nI (i + 1)) (lv' := [(3, .int (nI (i + 1))), (2, .int (nI (ctF (fun zj => decide (sc zj = sc (leF sc (n - 1)))) i + 1))), (0, .ref (a 0)), (1, .int (nI (leF sc (n - 1))))]) (n := 43) hC dX0_countTied_40 rfl (nI_add i 1) (by decide) rfl rfl ?_
      refine z_goto (n := 9) hC dX0_countTied_43 (by decide) ?_
      refine z_lv [2, 3, 1, 0] (lv' := [(0, .ref (a 0)), (1, .int (nI (leF sc (n - 1)))), (2, .int (nI (ctF (fun zj => decide (sc zj = sc (leF sc (n - 1)))) i + 1))), (3, .int (nI (i + 1)))]) rfl ?_
      refine z_leq (lv' := [(0, .ref (a 0)), (1, .int (ldF sc n)), (2, .int (nI (ctF (fun zj => decide (sc zj = sc (leF sc (n - 1)))) (i + 1)))), (3, .int (nI (i + 1)))]) (by rw [ldF_pos h0]; simp only [ctF, decide_eq_true_eq, if_pos c4, if_pos c6, Nat.add_zero]) ?_
      exact ih (i + 1) (by omega) (by omega)

set_option maxRecDepth 100000 in
set_option maxHeartbeats 4000000 in
theorem k_X0_countAbove (l : Launch) (G : va_G) (cI cZ cJ : ClassId) (a : Nat → Nat) (sw : Nat → Int32) (st : Nat → Int32) (fa : Nat → Int32) (sc : Nat → Int32) (fi : Nat → Int32) (mi : Nat → Int32) (lf : Nat → Bool) (hi : Nat → Bool) (n : Nat) (x : Int32) (hn : n ≤ 6) : MI (Unit) l yX0_countAbove cX0_countAbove 4 0 0 G (tY cI cZ cJ) [.ref (a 0), .int x] (wS a cI cZ sw st fa sc fi mi lf hi n) (fun zr _ => zr = nI (ctF (fun zj => decide (¬ sc zj ≤ x)) n)) (fun _ => wS a cI cZ sw st fa sc fi mi lf hi n) 0 0 := by
  refine MI_of (by decide) (Nat.le_of_ble_eq_true rfl) [(0, .ref (a 0)), (1, .int x)] rfl ?_
  intro p e s m below meth c hC hr hlocks hname
  have hC : Cx p s m _ c cX0_countAbove 4 RX0 G (tY cI cZ cJ) _ := hC
  refine z_iconst (v := nI 0) (n := 1) hC dX0_countAbove_0 (by decide) rfl ?_
  refine z_istore_n (lv' := [(2, .int (nI 0)), (0, .ref (a 0)), (1, .int x)]) (n := 2) hC dX0_countAbove_1 rfl (by decide) rfl rfl ?_
  refine z_iconst (v := nI 0) (n := 3) hC dX0_countAbove_2 (by decide) rfl ?_
  refine z_istore_n (lv' := [(3, .int (nI 0)), (2, .int (nI 0)), (0, .ref (a 0)), (1, .int x)]) (n := 4) hC dX0_countAbove_3 rfl (by decide) rfl rfl ?_
  refine z_lv [2, 3, 1, 0] (lv' := [(0, .ref (a 0)), (1, .int x), (2, .int (nI (ctF (fun zj => decide (¬ sc zj ≤ x)) 0))), (3, .int (nI 0))]) rfl ?_
  refine z_loop n 0 (fun i => wS a cI cZ sw st fa sc fi mi lf hi n) (fun i => [(0, .ref (a 0)), (1, .int x), (2, .int (nI (ctF (fun zj => decide (¬ sc zj ≤ x)) i))), (3, .int (nI i))]) (by omega) rfl rfl (fun i hi0 hi1 ih => ?_)
  refine z_iload_n (n := 5) hC dX0_countAbove_4 rfl 3 rfl rfl ?_
  refine z_aload_n (n := 6) hC dX0_countAbove_5 rfl 0 rfl rfl ?_
  refine gf_X0_37 (v := .int (nI n)) (n := 9) hC 0 rfl rfl dX0_countAbove_6 rfl ?_
  refine z_icmp_ge_n (tgt := 31) (n := 12) hC i n rfl rfl (by omega) (by omega) dX0_countAbove_9 (by decide) rfl (fun c1 => ?_) (fun c1 => ?_)
  · obtain rfl : n = i := by omega
    refine z_iload_n (n := 32) hC dX0_countAbove_31 rfl 2 rfl rfl ?_
    refine z_iret hC hr hlocks () ?_ rfl dX0_countAbove_32 (by omega) (by omega)
    rfl
  · refine z_aload_n (n := 13) hC dX0_countAbove_12 rfl 0 rfl rfl ?_
    refine gf_X0_21 (v := .ref (a 4)) (n := 16) hC 0 rfl rfl dX0_countAbove_13 rfl ?_
    refine z_iload_n (n := 17) hC dX0_countAbove_16 rfl 3 rfl rfl ?_
    refine z_iald (v := sc i) (n := 18) hC 4 0 i rfl rfl rfl (by omega) (by decide) dX0_countAbove_17 rfl rfl ?_
    refine z_iload_n (n := 19) hC dX0_countAbove_18 rfl 1 rfl rfl ?_
    refine z_icmp_le (tgt := 25) (n := 22) hC dX0_countAbove_19 (by decide) rfl (fun c2 => ?_) (fun c2 => ?_)
    · refine z_iinc (k0 := 3) (v := nI (i + 1)) (lv' := [(3, .int (nI (i + 1))), (0, .ref (a 0)), (1, .int x), (2, .int (nI (ctF (fun zj => decide (¬ sc zj ≤ x)) i)))]) (n := 28) hC dX0_countAbove_25 rfl (nI_add i 1) (by decide) rfl rfl ?_
      refine z_goto (n := 4) hC dX0_countAbove_28 (by decide) ?_
      refine z_lv [1, 2, 3, 0] (lv' := [(0, .ref (a 0)), (1, .int x), (2, .int (nI (ctF (fun zj => decide (¬ sc zj ≤ x)) i))), (3, .int (nI (i + 1)))]) rfl ?_
      refine z_leq (lv' := [(0, .ref (a 0)), (1, .int x), (2, .int (nI (ctF (fun zj => decide (¬ sc zj ≤ x)) (i + 1)))), (3, .int (nI (i + 1)))]) (by simp only [ctF, decide_eq_true_eq, ite_not, if_pos c1, if_pos c2, Nat.add_zero]) ?_
      exact ih (i + 1) (by omega) (by omega)
    · refine z_iinc (k0 := 2) (v := nI (ctF (fun zj => decide (¬ sc zj ≤ x)) i + 1)) (lv' := [(2, .int (nI (ctF (fun zj => decide (¬ sc zj ≤ x)) i + 1))), (0, .ref (a 0)), (1, .int x), (3, .int (nI i))]) (n := 25) hC dX0_countAbove_22 rfl (nI_add (ctF (fun zj => decide (¬ sc zj ≤ x)) i) 1) (by decide) rfl rfl ?_
      refine z_iinc (k0 := 3) (v := nI (i + 1)) (lv' := [(3, .int (nI (i + 1))), (2, .int (nI (ctF (fun zj => decide (¬ sc zj ≤ x)) i + 1))), (0, .ref (a 0)), (1, .int x)]) (n := 28) hC dX0_countAbove_25 rfl (nI_add i 1) (by decide) rfl rfl ?_
      refine z_goto (n := 4) hC dX0_countAbove_28 (by decide) ?_
      refine z_lv [2, 3, 1, 0] (lv' := [(0, .ref (a 0)), (1, .int x), (2, .int (nI (ctF (fun zj => decide (¬ sc zj ≤ x)) i + 1))), (3, .int (nI (i + 1)))]) rfl ?_
      refine z_leq (lv' := [(0, .ref (a 0)), (1, .int x), (2, .int (nI (ctF (fun zj => decide (¬ sc zj ≤ x)) (i + 1)))), (3, .int (nI (i + 1)))]) (by simp only [ctF, decide_eq_true_eq, ite_not, if_pos c1, if_neg c2, Nat.add_zero]) ?_
      exact ih (i + 1) (by omega) (by omega)

set_option maxRecDepth 100000 in
set_option maxHeartbeats 4000000 in
theorem k_X0_totalScore (l : Launch) (G : va_G) (cI cZ cJ : ClassId) (a : Nat → Nat) (sw : Nat → Int32) (st : Nat → Int32) (fa : Nat → Int32) (sc : Nat → Int32) (fi : Nat → Int32) (mi : Nat → Int32) (lf : Nat → Bool) (hi : Nat → Bool) (n : Nat) (hn : n ≤ 6) : MI (Unit) l yX0_totalScore cX0_totalScore 3 0 0 G (tY cI cZ cJ) [.ref (a 0)] (wS a cI cZ sw st fa sc fi mi lf hi n) (fun zr _ => zr = smF sc n) (fun _ => wS a cI cZ sw st fa sc fi mi lf hi n) 0 0 := by
  refine MI_of (by decide) (Nat.le_of_ble_eq_true rfl) [(0, .ref (a 0))] rfl ?_
  intro p e s m below meth c hC hr hlocks hname
  have hC : Cx p s m _ c cX0_totalScore 3 RX0 G (tY cI cZ cJ) _ := hC
  refine z_iconst (v := nI 0) (n := 1) hC dX0_totalScore_0 (by decide) rfl ?_
  refine z_istore_n (lv' := [(1, .int (nI 0)), (0, .ref (a 0))]) (n := 2) hC dX0_totalScore_1 rfl (by decide) rfl rfl ?_
  refine z_iconst (v := nI 0) (n := 3) hC dX0_totalScore_2 (by decide) rfl ?_
  refine z_istore_n (lv' := [(2, .int (nI 0)), (1, .int (nI 0)), (0, .ref (a 0))]) (n := 4) hC dX0_totalScore_3 rfl (by decide) rfl rfl ?_
  refine z_lv [2, 1, 0] (lv' := [(0, .ref (a 0)), (1, .int (smF sc 0)), (2, .int (nI 0))]) rfl ?_
  refine z_loop n 0 (fun i => wS a cI cZ sw st fa sc fi mi lf hi n) (fun i => [(0, .ref (a 0)), (1, .int (smF sc i)), (2, .int (nI i))]) (by omega) rfl rfl (fun i hi0 hi1 ih => ?_)
  refine z_iload_n (n := 5) hC dX0_totalScore_4 rfl 2 rfl rfl ?_
  refine z_aload_n (n := 6) hC dX0_totalScore_5 rfl 0 rfl rfl ?_
  refine gf_X0_37 (v := .int (nI n)) (n := 9) hC 0 rfl rfl dX0_totalScore_6 rfl ?_
  refine z_icmp_ge_n (tgt := 27) (n := 12) hC i n rfl rfl (by omega) (by omega) dX0_totalScore_9 (by decide) rfl (fun c1 => ?_) (fun c1 => ?_)
  · obtain rfl : n = i := by omega
    refine z_iload_n (n := 28) hC dX0_totalScore_27 rfl 1 rfl rfl ?_
    refine z_iret hC hr hlocks () ?_ rfl dX0_totalScore_28 (by omega) (by omega)
    rfl
  · refine z_iload_n (n := 13) hC dX0_totalScore_12 rfl 1 rfl rfl ?_
    refine z_aload_n (n := 14) hC dX0_totalScore_13 rfl 0 rfl rfl ?_
    refine gf_X0_21 (v := .ref (a 4)) (n := 17) hC 0 rfl rfl dX0_totalScore_14 rfl ?_
    refine z_iload_n (n := 18) hC dX0_totalScore_17 rfl 2 rfl rfl ?_
    refine z_iald (v := sc i) (n := 19) hC 4 0 i rfl rfl rfl (by omega) (by decide) dX0_totalScore_18 rfl rfl ?_
    refine z_iadd (v := (smF sc i) + (sc i)) (n := 20) hC dX0_totalScore_19 rfl rfl ?_
    refine z_istore_n (lv' := [(1, .int ((smF sc i) + (sc i))), (0, .ref (a 0)), (2, .int (nI i))]) (n := 21) hC dX0_totalScore_20 rfl (by decide) rfl rfl ?_
    refine z_iinc (k0 := 2) (v := nI (i + 1)) (lv' := [(2, .int (nI (i + 1))), (1, .int ((smF sc i) + (sc i))), (0, .ref (a 0))]) (n := 24) hC dX0_totalScore_21 rfl (nI_add i 1) (by decide) rfl rfl ?_
    refine z_goto (n := 4) hC dX0_totalScore_24 (by decide) ?_
    refine z_lv [2, 1, 0] (lv' := [(0, .ref (a 0)), (1, .int (smF sc (i + 1))), (2, .int (nI (i + 1)))]) rfl ?_
    exact ih (i + 1) (by omega) (by omega)
end
section
/-! The model's row 'now', and what its methods do to it. -/
def nowF (T : Nat) (sc fi mi fa : Nat → Int32) : Nat → Int32 := fun k => if k = 0 then nI T else if k < 7 then sc (k - 1) else if k < 13 then fi (k - 7) else if k < 19 then mi (k - 13) else fa (k - 19)
/-- the model, its row as T, sc, fi, mi, fa -/
abbrev wN (a : Nat → Nat) (cI : ClassId) (th : Int32) (n : Nat) (sw st b r : Nat → Int32) (T : Nat) (sc fi mi fa K : Nat → Int32) : va_W := wM a cI th n sw st b r (nowF T sc fi mi fa) K
section NW
variable {T T' g : Nat} {sc fi mi fa : Nat → Int32} {v : Int32}
theorem nw_sc (h : g < 6) : nowF T sc fi mi fa (1 + g) = sc g := by
  unfold nowF
  rw [if_neg (by omega), if_pos (by omega)]; congr 1; omega
theorem nw_fi (h : g < 6) : nowF T sc fi mi fa (7 + g) = fi g := by
  unfold nowF
  rw [if_neg (by omega), if_neg (by omega), if_pos (by omega)]; congr 1; omega
theorem nw_mi (h : g < 6) : nowF T sc fi mi fa (13 + g) = mi g := by
  unfold nowF
  rw [if_neg (by omega), if_neg (by omega), if_neg (by omega), if_pos (by omega)]; congr 1; omega
theorem nw_fa : nowF T sc fi mi fa (19 + g) = fa g := by
  unfold nowF
  rw [if_neg (by omega), if_neg (by omega), if_neg (by omega), if_neg (by omega)]; congr 1; omega
theorem nwu_T : upd (nowF T sc fi mi fa) 0 (nI T') = nowF T' sc fi mi fa := by
  funext k
  unfold upd nowF
  by_cases h : k = 0 <;> simp [h]
theorem nwu_sc (h : g < 6) : upd (nowF T sc fi mi fa) (1 + g) v = nowF T (upd sc g v) fi mi fa := by
  funext k
  unfold upd nowF
  by_cases h1 : k = 1 + g
  · subst h1
    rw [if_pos rfl, if_neg (by omega), if_pos (by omega)]
    show v = if 1 + g - 1 = g then v else _
    rw [if_pos (by omega)]
  · rw [if_neg h1]
    by_cases h2 : k = 0
    · simp [h2]
    · by_cases h3 : k < 7
      · simp only [h2, h3, if_true, if_false]; rw [if_neg (by omega)]
      · simp only [h2, h3, if_false]
theorem nwu_fi (h : g < 6) : upd (nowF T sc fi mi fa) (7 + g) v = nowF T sc (upd fi g v) mi fa := by
  funext k
  unfold upd nowF
  by_cases h1 : k = 7 + g
  · subst h1
    rw [if_pos rfl, if_neg (by omega), if_neg (by omega), if_pos (by omega)]
    show v = if 7 + g - 7 = g then v else _
    rw [if_pos (by omega)]
  · rw [if_neg h1]
    by_cases h2 : k < 7
    · simp [h2]
    · by_cases h3 : k < 13
      · simp only [show ¬ k = 0 by omega, h2, h3, if_true, if_false]; rw [if_neg (by omega)]
      · simp only [h2, h3, if_false]
theorem nwu_mi (h : g < 6) : upd (nowF T sc fi mi fa) (13 + g) v = nowF T sc fi (upd mi g v) fa := by
  funext k
  unfold upd nowF
  by_cases h1 : k = 13 + g
  · subst h1
    rw [if_pos rfl, if_neg (by omega), if_neg (by omega), if_neg (by omega), if_pos (by omega)]
    show v = if 13 + g - 13 = g then v else _
    rw [if_pos (by omega)]
  · rw [if_neg h1]
    by_cases h2 : k < 13
    · simp [h2]
    · by_cases h3 : k < 19
      · simp only [show ¬ k = 0 by omega, show ¬ k < 7 by omega, h2, h3, if_true, if_false]; rw [if_neg (by omega)]
      · simp only [h2, h3, if_false]
theorem nwu_fa : upd (nowF T sc fi mi fa) (19 + g) v = nowF T sc fi mi (upd fa g v) := by
  funext k
  unfold upd nowF
  by_cases h1 : k = 19 + g
  · subst h1
    rw [if_pos rfl, if_neg (by omega), if_neg (by omega), if_neg (by omega), if_neg (by omega)]
    show v = if 19 + g - 19 = g then v else _
    rw [if_pos (by omega)]
  · rw [if_neg h1]
    by_cases h2 : k < 19
    · simp [h2]
    · simp only [show ¬ k = 0 by omega, show ¬ k < 7 by omega, show ¬ k < 13 by omega, h2, if_false]; rw [if_neg (by omega)]
theorem nw_back {T0 : Nat} {sc0 fi0 mi0 fa0 K0 : Nat → Int32} (h : ∀ g, 6 ≤ g → fa g = fa0 g) : va_cpy (va_cpy (nowF T0 sc0 fi0 mi0 fa0) K0 0 0 25) (nowF T sc fi mi fa) 0 0 25 = nowF T0 sc0 fi0 mi0 fa0 := by
  funext k
  unfold va_cpy
  by_cases h1 : k < 25
  · simp [h1]
  · simp only [Nat.zero_le, true_and, Nat.zero_add, h1, if_false]
    unfold nowF
    simp only [show ¬ k = 0 by omega, show ¬ k < 7 by omega, show ¬ k < 13 by omega, show ¬ k < 19 by omega, if_false]
    exact h _ (by omega)
end NW
theorem add0 (x : Int32) : x + nI 0 = x := by rw [nI_0]; exact Int32.add_zero x
/-- a turn, before it is walked on: each gun has shot -/
def shq (sw st b r sc fi mi fa : Nat → Int32) (T : Nat) (g : Nat) : Int32 × Int32 × Int32 × Int32 := shQ (ouF (sw g) (st g) (fa g) (amF b r T g)) (sc g, fi g, mi g, fa g)
def shS (sw st b r sc fi mi fa : Nat → Int32) (T : Nat) : Nat → Int32 := fun g => (shq sw st b r sc fi mi fa T g).1
def shF (sw st b r sc fi mi fa : Nat → Int32) (T : Nat) : Nat → Int32 := fun g => (shq sw st b r sc fi mi fa T g).2.1
def shM (sw st b r sc fi mi fa : Nat → Int32) (T : Nat) : Nat → Int32 := fun g => (shq sw st b r sc fi mi fa T g).2.2.1
def shA (sw st b r sc fi mi fa : Nat → Int32) (T : Nat) : Nat → Int32 := fun g => (shq sw st b r sc fi mi fa T g).2.2.2
def mxA (sw st b r sc fi mi fa : Nat → Int32) (T : Nat) : Nat → Int32 := fun g => maxF (nI 0) (shA sw st b r sc fi mi fa T g - nI 3)
section PL
variable {sw st b r sc fi mi fa : Nat → Int32} {T n k : Nat}
theorem pl1_S : plS sw st b r sc fi mi fa T 1 = shS sw st b r sc fi mi fa T := rfl
theorem pl1_F : plF sw st b r sc fi mi fa T 1 = shF sw st b r sc fi mi fa T := rfl
theorem pl1_M : plM sw st b r sc fi mi fa T 1 = shM sw st b r sc fi mi fa T := rfl
theorem pl1_A (h : T % 5 = 4) : plA sw st b r sc fi mi fa T 1 = mxA sw st b r sc fi mi fa T := by
  funext g
  show (tuQ (sw g) (st g) b r (T + 0) g (sc g, fi g, mi g, fa g)).2.2.2 = _
  unfold tuQ mxA shA shq
  simp only [Nat.add_zero, h, if_true]
theorem pl1_A' (h : ¬ T % 5 = 4) : plA sw st b r sc fi mi fa T 1 = shA sw st b r sc fi mi fa T := by
  funext g
  show (tuQ (sw g) (st g) b r (T + 0) g (sc g, fi g, mi g, fa g)).2.2.2 = _
  unfold tuQ shA shq
  simp only [Nat.add_zero, h, if_false]
theorem pl_0S : pwF sc (plS sw st b r sc fi mi fa T 0) n = sc := by
  funext g
  unfold pwF
  by_cases h : g < n <;> simp [h, plS, ruQ]
theorem pl_0F : pwF fi (plF sw st b r sc fi mi fa T 0) n = fi := by
  funext g
  unfold pwF
  by_cases h : g < n <;> simp [h, plF, ruQ]
theorem pl_0M : pwF mi (plM sw st b r sc fi mi fa T 0) n = mi := by
  funext g
  unfold pwF
  by_cases h : g < n <;> simp [h, plM, ruQ]
theorem pl_0A : pwF fa (plA sw st b r sc fi mi fa T 0) n = fa := by
  funext g
  unfold pwF
  by_cases h : g < n <;> simp [h, plA, ruQ]
theorem pl_sS : pwF (pwF sc (plS sw st b r sc fi mi fa T k) n) (plS sw st b r (pwF sc (plS sw st b r sc fi mi fa T k) n) (pwF fi (plF sw st b r sc fi mi fa T k) n) (pwF mi (plM sw st b r sc fi mi fa T k) n) (pwF fa (plA sw st b r sc fi mi fa T k) n) (T + k) 1) n = pwF sc (plS sw st b r sc fi mi fa T (k + 1)) n := by
  funext g
  by_cases h : g < n
  · rw [pwF_lt h, pwF_lt h]; unfold plS; simp only [pwF_lt h]; rfl
  · rw [pwF_at (by omega), pwF_at (by omega), pwF_at (by omega)]
theorem pl_sF : pwF (pwF fi (plF sw st b r sc fi mi fa T k) n) (plF sw st b r (pwF sc (plS sw st b r sc fi mi fa T k) n) (pwF fi (plF sw st b r sc fi mi fa T k) n) (pwF mi (plM sw st b r sc fi mi fa T k) n) (pwF fa (plA sw st b r sc fi mi fa T k) n) (T + k) 1) n = pwF fi (plF sw st b r sc fi mi fa T (k + 1)) n := by
  funext g
  by_cases h : g < n
  · rw [pwF_lt h, pwF_lt h]; unfold plF; simp only [pwF_lt h]; rfl
  · rw [pwF_at (by omega), pwF_at (by omega), pwF_at (by omega)]
theorem pl_sM : pwF (pwF mi (plM sw st b r sc fi mi fa T k) n) (plM sw st b r (pwF sc (plS sw st b r sc fi mi fa T k) n) (pwF fi (plF sw st b r sc fi mi fa T k) n) (pwF mi (plM sw st b r sc fi mi fa T k) n) (pwF fa (plA sw st b r sc fi mi fa T k) n) (T + k) 1) n = pwF mi (plM sw st b r sc fi mi fa T (k + 1)) n := by
  funext g
  by_cases h : g < n
  · rw [pwF_lt h, pwF_lt h]; unfold plM; simp only [pwF_lt h]; rfl
  · rw [pwF_at (by omega), pwF_at (by omega), pwF_at (by omega)]
theorem pl_sA : pwF (pwF fa (plA sw st b r sc fi mi fa T k) n) (plA sw st b r (pwF sc (plS sw st b r sc fi mi fa T k) n) (pwF fi (plF sw st b r sc fi mi fa T k) n) (pwF mi (plM sw st b r sc fi mi fa T k) n) (pwF fa (plA sw st b r sc fi mi fa T k) n) (T + k) 1) n = pwF fa (plA sw st b r sc fi mi fa T (k + 1)) n := by
  funext g
  by_cases h : g < n
  · rw [pwF_lt h, pwF_lt h]; unfold plA; simp only [pwF_lt h]; rfl
  · rw [pwF_at (by omega), pwF_at (by omega), pwF_at (by omega)]
end PL
theorem ring4 (a b x y : Int32) : (a - b) + (x - y) = (a + x) - (b + y) := by
  rw [Int32.sub_eq_add_neg, Int32.sub_eq_add_neg, Int32.sub_eq_add_neg, Int32.neg_add, Int32.sub_eq_add_neg]
  ac_rfl
theorem smF_cong {f g : Nat → Int32} : ∀ {n : Nat}, (∀ j, j < n → f j = g j) → smF f n = smF g n
  | 0, _ => rfl
  | n + 1, e => by rw [smF, smF, smF_cong (fun j hj => e j (by omega)), e n (by omega)]
theorem smF_sub (f g : Nat → Int32) : ∀ n : Nat, smF (fun zj => f zj - g zj) n = smF f n - smF g n
  | 0 => by
    show nI 0 = nI 0 - nI 0
    decide
  | n + 1 => by rw [smF, smF, smF, smF_sub f g n, ring4]
/-- a set of guns as bits -/
def mkF (p : Nat → Bool) : Nat → Nat
  | 0 => 0
  | k + 1 => mkF p k + (if p k = true then 2 ^ k else 0)
theorem mkF_lt (p : Nat → Bool) : ∀ k, mkF p k < 2 ^ k
  | 0 => Nat.one_pos
  | k + 1 => by
    have h := mkF_lt p k
    unfold mkF
    rw [Nat.pow_succ]
    generalize 2 ^ k = P at *
    split <;> omega
theorem mkF_64 (p : Nat → Bool) {n : Nat} (h : n ≤ 6) : mkF p n < 64 := by
  have h1 := mkF_lt p n
  have h2 : 2 ^ n ≤ 2 ^ 6 := Nat.pow_le_pow_right (by decide) h
  omega
theorem mkF_cong {p q : Nat → Bool} : ∀ {n : Nat}, (∀ g, g < n → p g = q g) → mkF p n = mkF q n
  | 0, _ => rfl
  | n + 1, e => by rw [mkF, mkF, mkF_cong (fun g hg => e g (by omega)), e n (by omega)]
set_option maxRecDepth 20000 in
theorem or_bit0 : ∀ i, i < 6 → ∀ m, m < 2 ^ i → nI m ||| (nI 1 <<< (nI i &&& 31)) = nI (m + 2 ^ i) := by decide +kernel
theorem or_bit (p : Nat → Bool) {i : Nat} (h : i < 6) : nI (mkF p i) ||| (nI 1 <<< (nI i &&& 31)) = nI (mkF p i + 2 ^ i) := or_bit0 i h _ (mkF_lt p i)
def pcF (m : Nat) : Nat := m % 2 + m / 2 % 2 + m / 4 % 2 + m / 8 % 2 + m / 16 % 2 + m / 32 % 2
def tzF (m : Nat) : Nat := if m % 2 = 1 then 0 else if m / 2 % 2 = 1 then 1 else if m / 4 % 2 = 1 then 2 else if m / 8 % 2 = 1 then 3 else if m / 16 % 2 = 1 then 4 else 5
set_option maxHeartbeats 4000000 in
theorem pc_ok (p : Nat → Bool) {n : Nat} (hn : n ≤ 6) : ctF p n = pcF (mkF p n) := by
  rcases (show n = 0 ∨ n = 1 ∨ n = 2 ∨ n = 3 ∨ n = 4 ∨ n = 5 ∨ n = 6 by omega) with rfl | rfl | rfl | rfl | rfl | rfl | rfl
  · simp [ctF, mkF, pcF]
  · cases h0 : p 0 <;> simp [ctF, mkF, pcF, h0]
  · cases h0 : p 0 <;> cases h1 : p 1 <;> simp [ctF, mkF, pcF, h0, h1]
  · cases h0 : p 0 <;> cases h1 : p 1 <;> cases h2 : p 2 <;> simp [ctF, mkF, pcF, h0, h1, h2]
  · cases h0 : p 0 <;> cases h1 : p 1 <;> cases h2 : p 2 <;> cases h3 : p 3 <;> simp [ctF, mkF, pcF, h0, h1, h2, h3]
  · cases h0 : p 0 <;> cases h1 : p 1 <;> cases h2 : p 2 <;> cases h3 : p 3 <;> cases h4 : p 4 <;> simp [ctF, mkF, pcF, h0, h1, h2, h3, h4]
  · cases h0 : p 0 <;> cases h1 : p 1 <;> cases h2 : p 2 <;> cases h3 : p 3 <;> cases h4 : p 4 <;> cases h5 : p 5 <;> simp [ctF, mkF, pcF, h0, h1, h2, h3, h4, h5]
set_option maxHeartbeats 4000000 in
theorem tz_ok (p : Nat → Bool) {n : Nat} (hn : n ≤ 6) (hx : fiN p n < n) : fiN p n = tzF (mkF p n) := by
  rcases (show n = 0 ∨ n = 1 ∨ n = 2 ∨ n = 3 ∨ n = 4 ∨ n = 5 ∨ n = 6 by omega) with rfl | rfl | rfl | rfl | rfl | rfl | rfl
  · exact absurd hx (Nat.not_lt_zero _)
  · cases h0 : p 0 <;> simp [fiN, mkF, tzF, h0] at hx ⊢
  · cases h0 : p 0 <;> cases h1 : p 1 <;> simp [fiN, mkF, tzF, h0, h1] at hx ⊢
  · cases h0 : p 0 <;> cases h1 : p 1 <;> cases h2 : p 2 <;> simp [fiN, mkF, tzF, h0, h1, h2] at hx ⊢
  · cases h0 : p 0 <;> cases h1 : p 1 <;> cases h2 : p 2 <;> cases h3 : p 3 <;> simp [fiN, mkF, tzF, h0, h1, h2, h3] at hx ⊢
  · cases h0 : p 0 <;> cases h1 : p 1 <;> cases h2 : p 2 <;> cases h3 : p 3 <;> cases h4 : p 4 <;> simp [fiN, mkF, tzF, h0, h1, h2, h3, h4] at hx ⊢
  · cases h0 : p 0 <;> cases h1 : p 1 <;> cases h2 : p 2 <;> cases h3 : p 3 <;> cases h4 : p 4 <;> cases h5 : p 5 <;> simp [fiN, mkF, tzF, h0, h1, h2, h3, h4, h5] at hx ⊢
theorem mk_pos {p : Nat → Bool} {n : Nat} (hx : fiN p n < n) : mkF p n ≠ 0 := by
  have h1 : ∀ m g, g < m → p g = true → mkF p m ≠ 0 := by
    intro m
    induction m with
    | zero => intro g hg _; exact absurd hg (Nat.not_lt_zero _)
    | succ m ih =>
      intro g hg hp
      unfold mkF
      by_cases e : g = m
      · subst e
        rw [if_pos hp]
        have : 0 < 2 ^ g := Nat.two_pow_pos g
        omega
      · have := ih g (by omega) hp
        omega
  exact h1 n _ hx (fiN_at hx)
theorem bit_mk0 : ∀ g, g < 6 → ∀ m, m < 64 → (nI m >>> (nI g &&& 31)) &&& nI 1 = nI (m / 2 ^ g % 2) := by decide +kernel
theorem mk_bit (p : Nat → Bool) : ∀ (n g : Nat), g < n → mkF p n / 2 ^ g % 2 = if p g = true then 1 else 0
  | 0, g, h => absurd h (Nat.not_lt_zero _)
  | n + 1, g, h => by
    by_cases e : g = n
    · subst e
      unfold mkF
      have h1 := mkF_lt p g
      by_cases hp : p g = true
      · rw [if_pos hp, if_pos hp, Nat.add_div_right _ (Nat.two_pow_pos g), Nat.div_eq_of_lt h1]
      · rw [if_neg hp, if_neg hp, Nat.add_zero, Nat.div_eq_of_lt h1]
    · have ih := mk_bit p n g (by omega)
      rw [← ih]
      show (mkF p n + (if p n = true then 2 ^ n else 0)) / 2 ^ g % 2 = _
      by_cases hp : p n = true
      · rw [if_pos hp, show 2 ^ n = 2 ^ g * (2 * 2 ^ (n - g - 1)) by rw [← Nat.pow_succ', ← Nat.pow_add]; congr 1; omega, Nat.add_mul_div_left _ _ (Nat.two_pow_pos g), Nat.add_mul_mod_self_left]
      · rw [if_neg hp, Nat.add_zero]
theorem bit_mk (p : Nat → Bool) {n g : Nat} (hn : n ≤ 6) (hg : g < n) : (nI (mkF p n) >>> (nI g &&& 31)) &&& nI 1 = bN (p g) := by
  rw [bit_mk0 g (by omega) _ (mkF_64 p hn), mk_bit p n g hg]
  unfold bN
  split <;> rfl
theorem mk_an {h : Nat → Bool} : ∀ {n : Nat}, mkF h n = 0 ↔ anB h n = false
  | 0 => ⟨fun _ => rfl, fun _ => rfl⟩
  | n + 1 => by
    unfold mkF anB
    have := @mk_an h n
    have h2 : 0 < 2 ^ n := Nat.two_pow_pos n
    cases hh : h n
    · simp [this]
    · simp
theorem pwF_wp {α : Type} {f g h : Nat → α} {n : Nat} : pwF (pwF f g n) h n = pwF f h n := by
  funext j
  unfold pwF
  by_cases e : j < n <;> simp [e]
theorem nI_z {m : Nat} (h : m < 64) : nI m = 0 ↔ m = 0 := by
  rw [← nI_0]
  exact nI_eq (by omega) (by decide)
theorem mk_so1 {sw st fa : Nat → Int32} {lf : Nat → Bool} {n : Nat} {am : Int32} (h : ¬ mkF (htB sw st fa lf am) n = 0) : mkF (soL sw st fa lf n am) n = mkF (htB sw st fa lf am) n := by
  have h1 : anB (htB sw st fa lf am) n = true := by
    cases hh : anB (htB sw st fa lf am) n
    · exact absurd (mk_an.mpr hh) h
    · rfl
  unfold soL
  rw [if_pos h1]
  exact mkF_cong (fun g hg => pwF_lt hg)
theorem mk_so0 {sw st fa : Nat → Int32} {lf : Nat → Bool} {n : Nat} {am : Int32} (h : mkF (htB sw st fa lf am) n = 0) : mkF (soL sw st fa lf n am) n = mkF lf n := by
  have h1 := mk_an.mp h
  unfold soL
  rw [if_neg (by rw [h1]; decide)]
end
section
/-! what the model's checks come to -/
theorem bad_gun {x : Int32} {n : Nat} (hn : n ≤ 6) (h : x < 0 ∨ nI n ≤ x) : x < nI 0 ∨ nI n - nI 1 < x := by
  rcases h with h | h
  · exact Or.inl (nI_0 ▸ h)
  · refine Or.inr ?_
    rw [Int32.le_iff_toInt_le, nI_toInt (by omega)] at h
    rw [Int32.lt_iff_toInt_lt, pk_sub_toInt (by omega) (by omega)]
    omega
theorem bad_5 {x : Int32} (h : x < 0 ∨ nI 5 ≤ x) : x < nI 0 ∨ nI 4 < x := by
  rcases h with h | h
  · exact Or.inl (nI_0 ▸ h)
  · refine Or.inr ?_
    rw [Int32.le_iff_toInt_le, nI_toInt (by omega)] at h
    rw [Int32.lt_iff_toInt_lt, nI_toInt (by omega)]
    omega
theorem sum_mi {f g : Nat → Int32} {n : Nat} : smF (pwF f g n) n - smF f n = smF (fun zj => g zj - f zj) n := by
  rw [smF_sub, smF_cong (fun j hj => pwF_lt hj)]
end
section
/-! the model's looks ahead: pure facts -/
theorem soF_tail {sw st : Nat → Int32} {n : Nat} : ∀ (m k : Nat) (lf : Nat → Bool) (fa : Nat → Int32) (j : Nat), n ≤ j → (soF sw st n m k lf fa).2 j = fa j
  | 0, k, lf, fa, j, h => rfl
  | m + 1, k, lf, fa, j, h => by
    unfold soF
    split
    · rfl
    · rw [soF_tail m (k + 1) _ _ j h, pwF_at h]
theorem waF_tail {sw st sc fa : Nat → Int32} {n j : Nat} (h : n ≤ j) : waF sw st sc fa n j = fa j := soF_tail 9 1 _ _ j h
def bsI (f : Nat → Int32) (i : Nat) : Int32 := if i = 0 then (-1) else nI (brF f (i - 1))
def moI (f : Nat → Int32) (i : Nat) : Int32 := if i = 0 then nI 0 else f (brF f (i - 1))
theorem bsI_s (f : Nat → Int32) (i : Nat) : bsI f (i + 1) = nI (brF f i) := rfl
theorem moI_s (f : Nat → Int32) (i : Nat) : moI f (i + 1) = f (brF f i) := rfl
theorem bsI_0 {f : Nat → Int32} {i : Nat} (h : i = 0) : bsI f i = (-1) := if_pos h
theorem bsI_p {f : Nat → Int32} {i : Nat} (h : 0 < i) : bsI f i = nI (brF f (i - 1)) := if_neg (by omega)
theorem moI_p {f : Nat → Int32} {i : Nat} (h : 0 < i) : moI f i = f (brF f (i - 1)) := if_neg (by omega)
theorem brF_keep {f : Nat → Int32} {i : Nat} (h : 0 < i) (c : ¬ f (brF f (i - 1)) < f i) : brF f i = brF f (i - 1) := by
  obtain ⟨k, rfl⟩ : ∃ k, i = k + 1 := ⟨i - 1, by omega⟩
  exact if_pos (Int32.not_lt.mp c)
theorem brF_take {f : Nat → Int32} {i : Nat} (h : 0 < i) (c : f (brF f (i - 1)) < f i) : brF f i = i := by
  obtain ⟨k, rfl⟩ : ∃ k, i = k + 1 := ⟨i - 1, by omega⟩
  exact if_neg (Int32.not_le.mpr c)
theorem maxF_assoc (x y z : Int32) : maxF (maxF x y) z = maxF x (maxF y z) := by
  unfold maxF
  by_cases h1 : x < y <;> by_cases h2 : y < z <;> by_cases h3 : x < z <;> simp only [h1, h2, h3, if_true, if_false]
  all_goals (try rfl)
  all_goals (exfalso; simp only [Int32.lt_iff_toInt_lt] at *; omega)
theorem grF_max (b r : Nat → Int32) (x y : Int32) : ∀ k, maxF x (grF b r y k) = grF b r (maxF x y) k
  | 0 => rfl
  | k + 1 => by rw [grF, grF, ← maxF_assoc, grF_max b r x y k]
theorem swF_eq (b r : Nat → Int32) : maxF (nI 5) (grF b r (nI 0) 5) = grF b r (nI 5) 5 := by
  rw [grF_max]
  rfl
end
section
/-! turnsUntilMiss: the class looks at angles alone, the model plays; why that is the same -/
/-- not negative, at most N -/
def inN (x : Int32) (N : Nat) : Prop := 0 ≤ x.toInt ∧ x.toInt ≤ (N : Int)
theorem inN_nI {x : Int32} {N : Nat} (h : inN x N) (hN : N < 2 ^ 31) : ∃ a : Nat, a ≤ N ∧ x = nI a := by
  have h1 : ¬ x < 0 := fun hh => by
    rw [Int32.lt_iff_toInt_lt, Int32.toInt_zero] at hh
    have := h.1
    omega
  obtain ⟨j, hj, rfl⟩ := nI_of h1
  refine ⟨j, ?_, rfl⟩
  have h2 := h.2
  rw [nI_toInt hj] at h2
  omega
theorem nI_inN {a N : Nat} (h : a ≤ N) (hN : N < 2 ^ 31) : inN (nI a) N := by
  unfold inN
  rw [nI_toInt (by omega)]
  omega
theorem ou_miss {sw st fa am : Int32} (h1 : nI 1 ≤ st) (h2 : inN fa (2 ^ 29)) (h4 : inN am 1000) : ouF sw st fa am = 0 ↔ ¬ am ≤ sw := by
  obtain ⟨a, ha, rfl⟩ := inN_nI h2 (by decide)
  obtain ⟨m, hm, rfl⟩ := inN_nI h4 (by decide)
  have h1' : ¬ st < 0 := fun hh => by
    rw [Int32.lt_iff_toInt_lt, Int32.toInt_zero] at hh
    rw [Int32.le_iff_toInt_le, nI_toInt (by decide)] at h1
    omega
  obtain ⟨s, hs, rfl⟩ := nI_of h1'
  have hs1 : 1 ≤ s := (nI_leI (by decide) hs).mp h1
  have hle : a / s ≤ a := Nat.div_le_self a s
  unfold ouF trF
  rw [if_pos h1, pk_div (by omega) (by omega) hs, nI_add]
  generalize a / s = t at *
  have e2 : ¬ nI 2 = 0 := by decide
  have e1 : ¬ nI 1 = 0 := by decide
  by_cases c1 : sw < nI (m + t)
  · rw [if_pos c1]
    by_cases c2 : sw < nI m
    · rw [if_pos c2]
      exact ⟨fun _ => Int32.not_le.mpr c2, fun _ => nI_0⟩
    · rw [if_neg c2]
      exact ⟨fun h => absurd h e1, fun h => absurd (Int32.not_lt.mp c2) h⟩
  · rw [if_neg c1]
    refine ⟨fun h => absurd h e2, fun h => absurd ?_ h⟩
    have h3 := Int32.not_lt.mp c1
    rw [Int32.le_iff_toInt_le, nI_toInt (by omega)] at h3 ⊢
    omega
theorem sh_fa {x : Int32} {N : Nat} (h : inN x N) (hN : N + 2 < 2 ^ 31) (o : Int32) : inN (x + (if o = nI 2 then nI 1 else nI 2)) (N + 2) := by
  obtain ⟨a, ha, rfl⟩ := inN_nI h (by omega)
  split
  · rw [nI_add]; exact nI_inN (by omega) hN
  · rw [nI_add]; exact nI_inN (by omega) hN
theorem mx_fa {x : Int32} {N : Nat} (h : inN x N) (hN : N < 2 ^ 30) : inN (maxF (nI 0) (x - nI 3)) N := by
  obtain ⟨a, ha, rfl⟩ := inN_nI h (by omega)
  unfold maxF
  split
  · rename_i c
    rw [Int32.lt_iff_toInt_lt, nI_toInt (by decide), pk_sub_toInt (by omega) (by decide)] at c
    rw [pk_sub (by omega)]
    exact nI_inN (by omega) (by omega)
  · exact nI_inN (by omega) (by omega)
theorem tu_fa {sw st : Int32} {b r : Nat → Int32} {T g : Nat} {q : Int32 × Int32 × Int32 × Int32} {N : Nat} (h : inN q.2.2.2 N) (hN : N + 2 < 2 ^ 30) : inN (tuQ sw st b r T g q).2.2.2 (N + 2) := by
  have h1 : inN (shQ (ouF sw st q.2.2.2 (amF b r T g)) q).2.2.2 (N + 2) := sh_fa h (by omega) _
  show inN (if T % 5 = 4 then maxF (nI 0) ((shQ (ouF sw st q.2.2.2 (amF b r T g)) q).2.2.2 - nI 3) else (shQ (ouF sw st q.2.2.2 (amF b r T g)) q).2.2.2) (N + 2)
  split
  · exact mx_fa h1 hN
  · exact h1
theorem ru_fa {sw st : Int32} {b r : Nat → Int32} {T g : Nat} {q : Int32 × Int32 × Int32 × Int32} {N : Nat} (h : inN q.2.2.2 N) : ∀ i : Nat, N + 2 * i < 2 ^ 30 → inN (ruQ sw st b r T g q i).2.2.2 (N + 2 * i)
  | 0, _ => h
  | i + 1, hN => by
    have ih := ru_fa (sw := sw) (st := st) (b := b) (r := r) (T := T) (g := g) h i (by omega)
    exact tu_fa ih (by omega)
theorem tu_mi {sw st : Int32} {b r : Nat → Int32} {T g : Nat} {q : Int32 × Int32 × Int32 × Int32} (h1 : nI 1 ≤ st) (h2 : inN q.2.2.2 (2 ^ 29)) (h4 : inN (amF b r T g) 1000) : (tuQ sw st b r T g q).2.2.1 = q.2.2.1 + bN (decide (¬ amF b r T g ≤ sw)) := by
  show (if ouF sw st q.2.2.2 (amF b r T g) = 0 then q.2.2.1 + nI 1 else q.2.2.1) = _
  by_cases c : amF b r T g ≤ sw
  · rw [if_neg (fun h => (ou_miss h1 h2 h4).mp h c)]
    simp [c, bN, add0]
  · rw [if_pos ((ou_miss h1 h2 h4).mpr c)]
    simp [c, bN]
section UM
variable {sw st b r sc fi mi fa : Nat → Int32} {T g : Nat}
theorem um_0 (h1 : nI 1 ≤ st g) (h2 : inN (fa g) (2 ^ 28)) (h4 : ∀ t : Nat, inN (amF b r t g) 1000) : ∀ i : Nat, i ≤ 100 → (∀ j, j < i → miB sw b r T g j = false) → plM sw st b r sc fi mi fa T i g = mi g
  | 0, _, _ => rfl
  | i + 1, hi, hno => by
    have ih := um_0 h1 h2 h4 i (by omega) (fun j hj => hno j (by omega))
    show (tuQ (sw g) (st g) b r (T + i) g (ruQ (sw g) (st g) b r T g (sc g, fi g, mi g, fa g) i)).2.2.1 = mi g
    have hf : inN (ruQ (sw g) (st g) b r T g (sc g, fi g, mi g, fa g) i).2.2.2 (2 ^ 28 + 2 * i) := ru_fa h2 i (by omega)
    rw [tu_mi h1 ⟨hf.1, by have := hf.2; omega⟩ (h4 _)]
    have e : (ruQ (sw g) (st g) b r T g (sc g, fi g, mi g, fa g) i).2.2.1 = mi g := ih
    have e2 : decide (¬ amF b r (T + i) g ≤ sw g) = false := hno i (by omega)
    rw [e, e2]
    exact add0 _
theorem um_mi (h1 : nI 1 ≤ st g) (h2 : inN (fa g) (2 ^ 28)) (h4 : ∀ t : Nat, inN (amF b r t g) 1000) {i : Nat} (hi : i < 100) (hno : ∀ j, j < i → miB sw b r T g j = false) : plM sw st b r sc fi mi fa T (i + 1) g = mi g + bN (miB sw b r T g i) := by
  show (tuQ (sw g) (st g) b r (T + i) g (ruQ (sw g) (st g) b r T g (sc g, fi g, mi g, fa g) i)).2.2.1 = _
  have hf : inN (ruQ (sw g) (st g) b r T g (sc g, fi g, mi g, fa g) i).2.2.2 (2 ^ 28 + 2 * i) := ru_fa h2 i (by omega)
  rw [tu_mi h1 ⟨hf.1, by have := hf.2; omega⟩ (h4 _)]
  have e : (ruQ (sw g) (st g) b r T g (sc g, fi g, mi g, fa g) i).2.2.1 = mi g := um_0 h1 h2 h4 i (by omega) hno
  rw [e]
  rfl
end UM
theorem um_le (x : Int32) : x + bN false ≤ x := by
  show x + nI 0 ≤ x
  rw [add0]
  exact Int32.le_refl x
theorem um_lt {x : Int32} (h : inN x (2 ^ 30)) : ¬ x + bN true ≤ x := by
  obtain ⟨a, ha, rfl⟩ := inN_nI h (by decide)
  show ¬ nI a + nI 1 ≤ nI a
  rw [nI_add]
  exact nI_ge (by omega) (by omega)
def umS (p : Nat → Bool) (i : Nat) : Int32 := if fiN p i < i then nI (fiN p i + 1) else (-1)
theorem fiN_none {p : Nat → Bool} {i : Nat} (h : ¬ fiN p i < i) : ∀ j, j < i → p j = false := by
  intro j hj
  cases hp : p j
  · rfl
  · exact absurd (fiN_lt hj hp) h
theorem umS_no {p : Nat → Bool} {i : Nat} (h : ∀ j, j < i → p j = false) (hb : p i = false) : umS p (i + 1) = (-1) := by
  unfold umS
  rw [fiN_no (no_step h hb), if_neg (by omega)]
theorem umS_yes {p : Nat → Bool} {i : Nat} (h : ∀ j, j < i → p j = false) (hb : p i = true) : umS p (i + 1) = nI (i + 1) := by
  unfold umS
  rw [fiN_yes h hb (by omega), if_pos (by omega)]
theorem fiN_mono {p : Nat → Bool} {i : Nat} (h : fiN p i < i) : ∀ k : Nat, fiN p (i + k) = fiN p i
  | 0 => rfl
  | k + 1 => by
    show (if fiN p (i + k) < i + k then fiN p (i + k) else if p (i + k) = true then i + k else i + k + 1) = _
    rw [fiN_mono h k, if_pos (by omega)]
theorem umF_found {p : Nat → Bool} {i n : Nat} (h : fiN p i < i) (hi : i ≤ n) : umF p n = nI (fiN p i + 1) := by
  obtain ⟨k, rfl⟩ : ∃ k, n = i + k := ⟨n - i, by omega⟩
  unfold umF
  rw [fiN_mono h k, if_pos (by omega)]
end
