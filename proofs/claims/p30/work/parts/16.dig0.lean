/-! digest: what both sides add up -/
def fdF (d : Int64) (x : Int32) : Int64 := d * 31 + x.toInt64
def dg6 (x0 x1 x2 x3 x4 x5 : Int32) : Int64 := fdF (fdF (fdF (fdF (fdF (fdF 2137 x0) x1) x2) x3) x4) x5
def d10 (d : Int64) (x0 x1 x2 x3 x4 x5 x6 x7 x8 x9 : Int32) : Int64 := fdF (fdF (fdF (fdF (fdF (fdF (fdF (fdF (fdF (fdF d x0) x1) x2) x3) x4) x5) x6) x7) x8) x9
def dgC (b r : Nat → Int32) (s : Nat) (d : Int64) : Nat → Int64
  | 0 => d
  | i + 1 => fdF (dgC b r s d i) (angF b r s i)
def dgS (b r : Nat → Int32) (d : Int64) : Nat → Int64
  | 0 => d
  | i + 1 => fdF (dgC b r i (dgS b r d i) 5) (nI (haF b r i 4))
def dgG (sw st b r sc fi mi fa : Nat → Int32) (T n : Nat) (d : Int64) : Nat → Int64
  | 0 => d
  | i + 1 => d10 (dgG sw st b r sc fi mi fa T n d i) (nI (stF T i)) (angF b r (stF T i) (T % 5)) (sc i) (fi i) (mi i) (fa i) (ouF (sw i) (st i) (fa i) (amF b r T i)) (nI (1 + ctF (fun zj => decide (¬ sc zj ≤ sc i)) n)) (umF (miB sw b r T i) 100) (nI (brF (reF sw st b r sc fi mi fa T i) 20))
def dgP (sw st b r sc fi mi fa : Nat → Int32) (T n : Nat) : Int64 := dg6 (nI T) (nI n) (ldF sc n) (nI (ctF (beB sc n) n)) (wwF sw st sc fa n) (ldF (plS sw st b r sc fi mi fa T 25) n)
def dgF (sw st b r sc fi mi fa : Nat → Int32) (T n : Nat) : Int64 := dgG sw st b r sc fi mi fa T n (dgS b r (dgP sw st b r sc fi mi fa T n) 5) n
/-! a new array of int; cells that a walk forgets -/
def wA6 (a : Nat) (cI : ClassId) (f : Nat → Int32) : va_W := [(a, .inl (cI, 6, .inl f))]
def wA10 (a : Nat) (cI : ClassId) (f : Nat → Int32) : va_W := [(a, .inl (cI, 10, .inl f))]
theorem fm_of_map {α β : Type} (f : α → Option β) : ∀ (is : List α) (w : List β), is.map f = w.map some → is.filterMap f = w
  | [], [], _ => rfl
  | [], b :: w, h => by simp at h
  | i :: is, [], h => by simp at h
  | i :: is, b :: w, h => by
    simp only [List.map_cons, List.cons.injEq] at h
    rw [List.filterMap_cons, h.1]
    simp only [fm_of_map f is w h.2]
section ZA
variable {p : Program} {l : Launch} {e : Env} {R : Room} {s : State} {m : MethodId} {args : Array Value} {below : List Frame} {meth : Method} {c : Code} {cc : ByteArray} {nL : Nat} {own : String} {G : va_G} {tys : List (ClassId × FieldType)} {A : Nat → Prop} {cells slots : Nat} {Q : State → Prop}
variable {ws : va_W} {lv : List (Nat × Value)} {pc n : Nat} {rest : List Value}
theorem z_drop {ws' : va_W} (is : List Nat) (hn : va_nd is = true) (hs : is.map (fun i => ws[i]?) = ws'.map some) {st : List Value} (k : ZZ p l e R s m args below meth c G A nL cells slots Q ws' lv pc st) : ZZ p l e R s m args below meth c G A nL cells slots Q ws lv pc st := fun H locs ls hP hD hS hl => k H locs ls (hP.sub is (fm_of_map _ is ws' hs)) (hD.sub is hn hs) hS hl
theorem z_newaI (hC : Cx p s m args c cc nL own G tys A) (t0 N : Nat) {cA : ClassId} {x : Int32} {ws2 : Nat → va_W} (ht : tys[t0]? = some (cA, .int)) (hw0 : Cond.arrayClass .int ∈ zAW) (hx : x = nI N) (hN : N < 1000) (hc : cells + 1 ≤ R.cells) (hs : slots + N ≤ R.slots) (hdg : decode cc pc = .ok (.newarray .int, 2)) (hw : ∀ q, ws ++ [(q, .inl (cA, N, .inl (fun _ => nI 0)))] = ws2 q) (hn : pc + 2 = n) (k : ∀ q : Nat, ZZ p l e R s m args below meth c G A nL (cells + 1) (slots + N) Q (ws2 q) lv n (.ref q :: rest)) : ZZ p l e R s m args below meth c G A nL cells slots Q ws lv pc (.int x :: rest) := by
  subst hn; subst hx
  intro H locs ls hP hD hS hl
  refine va_newa (atype := .int) (ty := .int) (N' := N) (a0 := (N, .inl (fun _ => nI 0))) hC.1 hC.2.1 (hC.2.2.2.2.1 _ hw0) rfl hC.2.2.2.2.2.1 hP hD hS hC.2.2.2.2.2.2.1 (fun _ => rfl) (nI_pos (by omega)) (nI_clamp (by omega)) (by show N * 4 ≤ 536870912; omega) hc hs hdg (fun q cA' H1 hK hP hD hS => ?_)
  have e1 : va_RA s cA' .int := (hK.2 tys.length (cA', .int) (by simp)).2
  have e2 : va_RA s cA .int := (hC.2.2.2.2.2.1.2 t0 _ ht).2
  have e3 : cA' = cA := Option.some.inj (Eq.trans (Eq.symm e1) e2)
  subst e3
  rw [hw q] at hP hD
  exact k q H1 locs ls hP hD hS hl
end ZA
