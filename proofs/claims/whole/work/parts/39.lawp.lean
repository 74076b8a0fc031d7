/-! the law's loop: its bounds -/
theorem inN_mono {x : Int32} {N M : Nat} (h : inN x N) (hm : N ≤ M) : inN x M := ⟨h.1, by have := h.2; omega⟩
theorem ru_mi {sw st : Int32} {b r : Nat → Int32} {T g : Nat} {q : Int32 × Int32 × Int32 × Int32} {N : Nat} (h : inN q.2.2.1 N) : ∀ i : Nat, N + i < 2 ^ 30 → inN (ruQ sw st b r T g q i).2.2.1 (N + i)
  | 0, _ => h
  | i + 1, hN => by
    have ih := ru_mi (sw := sw) (st := st) (b := b) (r := r) (T := T) (g := g) h i (by omega)
    show inN (if ouF sw st (ruQ sw st b r T g q i).2.2.2 (amF b r (T + i) g) = 0 then (ruQ sw st b r T g q i).2.2.1 + nI 1 else (ruQ sw st b r T g q i).2.2.1) (N + (i + 1))
    split
    · obtain ⟨a, ha, e⟩ := inN_nI ih (by omega)
      rw [e, nI_add]
      exact nI_inN (by omega) (by omega)
    · exact inN_mono ih (by omega)
theorem up_fa {fa : Nat → Int32} {lf : Nat → Bool} {n N : Nat} (h : ∀ g, inN (fa g) N) (hN : N + 1 < 2 ^ 31) (g : Nat) : inN (pwF fa (upA fa lf) n g) (N + 1) := by
  unfold pwF upA
  split
  · split
    · obtain ⟨a, ha, e⟩ := inN_nI (h g) (by omega)
      rw [e, nI_add]
      exact nI_inN (by omega) hN
    · exact inN_mono (h g) (by omega)
  · exact inN_mono (h g) (by omega)
theorem so_fa {sw st : Nat → Int32} {n : Nat} : ∀ (m k : Nat) (lf : Nat → Bool) (fa : Nat → Int32) (N : Nat), N + m < 2 ^ 30 → (∀ g, inN (fa g) N) → ∀ g, inN ((soF sw st n m k lf fa).2 g) (N + m)
  | 0, k, lf, fa, N, hN, h, g => h g
  | m + 1, k, lf, fa, N, hN, h, g => by
    unfold soF
    split
    · exact inN_mono (h g) (by omega)
    · have := so_fa (sw := sw) (st := st) (n := n) m (k + 1) (soL sw st fa lf n (nI (6 * k))) (pwF fa (upA fa lf) n) (N + 1) (by omega) (up_fa h (by omega)) g
      exact inN_mono this (by omega)
theorem ang_r : ∀ a, a < 46 → ∀ c, c < 5 → -45 ≤ (nI a * (nI c - nI 2) / nI 2).toInt ∧ (nI a * (nI c - nI 2) / nI 2).toInt ≤ 45 := by decide +kernel
theorem am_in {b r : Nat → Int32} (hb : ∀ k, k < 5 → -45 ≤ (b k).toInt ∧ (b k).toInt ≤ 45) (hr : ∀ k, k < 5 → inN (r k) 45) (T g : Nat) : inN (amF b r T g) 1000 := by
  have hs : stF T g < 5 := Nat.mod_lt _ (by decide)
  have hc : T % 5 < 5 := Nat.mod_lt _ (by decide)
  unfold amF angF
  generalize stF T g = k at *
  generalize T % 5 = c at *
  obtain ⟨a, ha, e⟩ := inN_nI (hr k hs) (by decide)
  rw [e]
  have h1 := hb k hs
  have h2 := ang_r a (by omega) c hc
  generalize nI a * (nI c - nI 2) / nI 2 = y at *
  generalize b k = x at *
  have h3 : (x + y).toInt = x.toInt + y.toInt := Jvm.Kit.i32_add (by omega) (by omega)
  generalize x + y = z at *
  have hz : (0 : Int32).toInt = 0 := Int32.toInt_zero
  unfold absF
  split
  · rename_i c0
    rw [Int32.le_iff_toInt_le, hz] at c0
    exact ⟨c0, by omega⟩
  · rename_i c0
    rw [Int32.not_le, Int32.lt_iff_toInt_lt, hz] at c0
    have h4 : (0 - z).toInt = (0 : Int32).toInt - z.toInt := Jvm.Kit.i32_sub (by omega) (by omega)
    unfold inN
    rw [h4, hz]
    omega
/-- what holds ahead of the law's call j -/
def iv (j T n : Nat) (b r st fa mi : Nat → Int32) : Prop := n ≤ 6 ∧ T ≤ 50 * j ∧ (∀ g, g < n → nI 1 ≤ st g) ∧ (∀ g, inN (fa g) (100 * j)) ∧ (∀ g, inN (mi g) (50 * j)) ∧ (∀ k, k < 5 → -45 ≤ (b k).toInt ∧ (b k).toInt ≤ 45) ∧ (∀ k, k < 5 → inN (r k) 45)
section IV
variable {j T n : Nat} {b r sw st sc fi fa mi : Nat → Int32}
theorem iv_same (h : iv j T n b r st fa mi) : iv (j + 1) T n b r st fa mi :=
  ⟨h.1, by have := h.2.1; omega, h.2.2.1, fun g => inN_mono (h.2.2.2.1 g) (by omega), fun g => inN_mono (h.2.2.2.2.1 g) (by omega), h.2.2.2.2.2.1, h.2.2.2.2.2.2⟩
theorem iv_add {y : Int32} (h : iv j T n b r st fa mi) (hn : n < 6) (hy : ¬ y < nI 1) : iv (j + 1) T (n + 1) b r (upd st n y) fa mi := by
  obtain ⟨h1, h2, h3, h4⟩ := iv_same h
  refine ⟨by omega, h2, fun g hg => ?_, h4⟩
  by_cases e : g = n
  · subst e
    rw [pk_us]
    exact Int32.not_lt.mp hy
  · rw [upd_ne e]
    exact h3 g (by omega)
theorem iv_trap {x y : Int32} {s0 : Nat} (h : iv j T n b r st fa mi) (hx1 : ¬ x < (-45)) (hx2 : x ≤ nI 45) (hy1 : ¬ y < 0) (hy2 : y ≤ nI 45) : iv (j + 1) T n (upd b s0 x) (upd r s0 y) st fa mi := by
  obtain ⟨h1, h2, h3, h4, h5, h6, h7⟩ := iv_same h
  refine ⟨h1, h2, h3, h4, h5, fun k hk => ?_, fun k hk => ?_⟩
  · by_cases e : k = s0
    · subst e
      rw [pk_us]
      rw [Int32.not_lt, Int32.le_iff_toInt_le] at hx1
      rw [Int32.le_iff_toInt_le, nI_toInt (by decide)] at hx2
      have e0 : ((-45 : Int32)).toInt = -45 := by decide
      omega
    · rw [upd_ne e]
      exact h6 k hk
  · by_cases e : k = s0
    · subst e
      rw [pk_us]
      obtain ⟨a, ha, rfl⟩ := nI_of2 (n := 45) (nI_toInt (by decide)) hy1 hy2
      exact nI_inN ha (by decide)
    · rw [upd_ne e]
      exact h7 k hk
theorem iv_rest {g0 : Nat} (h : iv j T n b r st fa mi) : iv (j + 1) T n b r st (upd fa g0 (nI 0)) mi := by
  obtain ⟨h1, h2, h3, h4, h5⟩ := iv_same h
  refine ⟨h1, h2, h3, fun g => ?_, h5⟩
  by_cases e : g = g0
  · subst e
    rw [pk_us]
    exact ⟨by decide, by rw [nI_toInt (by decide)]; omega⟩
  · rw [upd_ne e]
    exact h4 g
theorem iv_pass {k : Nat} (h : iv j T n b r st fa mi) (hj : j ≤ 512) (hk : k ≤ 50) : iv (j + 1) (T + k) n b r st (pwF fa (plA sw st b r sc fi mi fa T k) n) (pwF mi (plM sw st b r sc fi mi fa T k) n) := by
  obtain ⟨h1, h2, h3, h4, h5, h6⟩ := h
  refine ⟨h1, by omega, h3, fun g => ?_, fun g => ?_, h6⟩
  · unfold pwF
    split
    · exact inN_mono (ru_fa (q := (sc g, fi g, mi g, fa g)) (h4 g) k (by omega)) (by omega)
    · exact inN_mono (h4 g) (by omega)
  · unfold pwF
    split
    · exact inN_mono (ru_mi (q := (sc g, fi g, mi g, fa g)) (h5 g) k (by omega)) (by omega)
    · exact inN_mono (h5 g) (by omega)
theorem iv_shoot (h : iv j T n b r st fa mi) (hj : j ≤ 512) : iv (j + 1) T n b r st (waF sw st sc fa n) mi := by
  obtain ⟨h1, h2, h3, h4, h5⟩ := iv_same h
  exact ⟨h1, h2, h3, fun g => inN_mono (so_fa 9 1 _ fa _ (by omega) h.2.2.2.1 g) (by omega), h5⟩
end IV
theorem gun_or (x : Int32) (n : Nat) (hn : n ≤ 6) : (∃ g, g < n ∧ x = nI g) ∨ (x < 0 ∨ nI n ≤ x) := by
  by_cases h : x < 0
  · exact Or.inr (Or.inl h)
  · obtain ⟨k, hk, rfl⟩ := nI_of h
    by_cases h2 : k < n
    · exact Or.inl ⟨k, h2, rfl⟩
    · exact Or.inr (Or.inr (nI_le (by omega) hk))
theorem turns_or (x : Int32) : (∃ k, 1 ≤ k ∧ k ≤ 50 ∧ x = nI k) ∨ (x < nI 1 ∨ nI 50 < x) := by
  by_cases h : x < nI 1
  · exact Or.inr (Or.inl h)
  · by_cases h2 : nI 50 < x
    · exact Or.inr (Or.inr h2)
    · have h0 : ¬ x < 0 := fun h0 => h (by
        rw [Int32.lt_iff_toInt_lt] at h0 ⊢
        rw [nI_toInt (by decide)]
        have : (0 : Int32).toInt = 0 := Int32.toInt_zero
        omega)
      obtain ⟨k, hk, rfl⟩ := nI_of h0
      rw [nI_ltI hk (by decide)] at h
      rw [nI_ltI (by decide) hk] at h2
      exact Or.inl ⟨k, by omega, by omega, rfl⟩
theorem lg_self (x : Int64) : lg_cmp x x = 0 := by simp [lg_cmp]
theorem updL_at {f : Nat → Int64} {k : Nat} {x : Int64} : vp_updL f k x k = x := if_pos rfl
/-- the switch's own number -/
theorem and31 (x : Int32) : ∃ k : Nat, k < 32 ∧ x &&& nI 31 = nI k := by
  have h : (x &&& nI 31).toInt = ((x.toBitVec &&& 31#32).toNat : Int) := by
    rw [show (x &&& nI 31).toInt = (x.toBitVec &&& 31#32).toInt from rfl, BitVec.toInt_eq_toNat_cond]
    have h9 : (x.toBitVec &&& 31#32).toNat ≤ 31 := by
      rw [BitVec.toNat_and]
      exact Nat.and_le_right
    rw [if_pos (by omega)]
  have h9 : (x.toBitVec &&& 31#32).toNat ≤ 31 := by
    rw [BitVec.toNat_and]
    exact Nat.and_le_right
  refine ⟨(x.toBitVec &&& 31#32).toNat, by omega, ?_⟩
  apply Int32.toInt_inj.mp
  rw [h, nI_toInt (by omega)]
section ZL
variable {p : Program} {l : Launch} {e : Env} {R : Room} {s : State} {m : MethodId} {args : Array Value} {below : List Frame} {meth : Method} {c : Code} {cc : ByteArray} {nL : Nat} {own : String} {G : va_G} {tys : List (ClassId × FieldType)} {A : Nat → Prop} {cells slots : Nat} {Q : State → Prop}
variable {ws : va_W} {lv : List (Nat × Value)} {pc n : Nat} {rest : List Value}
theorem z_sld (hC : Cx p s m args c cc nL own G tys A) {b0 L : Nat} {xs : Nat → Int32} (hX : va_X b0 L xs s s.heap) (hb : b0 < s.heap.size) (hA : ¬ A b0) (hL : L ≤ 2048) (j : Nat) {x v : Int32} (hx : x = nI j) (hj : j < L) (hv : xs j = v) (hdg : decode cc pc = .ok (.iaload, 1)) (hn : pc + 1 = n) (k : ZZ p l e R s m args below meth c G A nL cells slots Q ws lv n (.int v :: rest)) : ZZ p l e R s m args below meth c G A nL cells slots Q ws lv pc (.int x :: .ref b0 :: rest) := by
  subst hn; subst hx; subst hv
  intro H locs ls hP hD hS hl
  refine va_sld hC.1 hC.2.1 hX hb hA hS (vp_in_nI hj (by omega)) hdg ?_
  rw [nI_clamp (by omega)]
  exact k H locs ls hP hD hS hl
theorem z_slen (hC : Cx p s m args c cc nL own G tys A) {b0 L : Nat} {xs : Nat → Int32} (hX : va_X b0 L xs s s.heap) (hb : b0 < s.heap.size) (hA : ¬ A b0) (hdg : decode cc pc = .ok (.arraylength, 1)) (hn : pc + 1 = n) (k : ZZ p l e R s m args below meth c G A nL cells slots Q ws lv n (.int (nI L) :: rest)) : ZZ p l e R s m args below meth c G A nL cells slots Q ws lv pc (.ref b0 :: rest) := by
  subst hn
  intro H locs ls hP hD hS hl
  exact va_slen hC.1 hC.2.1 hX hb hA hS hdg (k H locs ls hP hD hS hl)
theorem z_wid {st : List Value} {k1 k2 : Nat} (h1 : cells ≤ k1) (h2 : slots ≤ k2) (k : ZZ p l e R s m args below meth c G A nL k1 k2 Q ws lv pc st) : ZZ p l e R s m args below meth c G A nL cells slots Q ws lv pc st := fun H locs ls hP hD hS hl => W.widen h1 h2 (k H locs ls hP hD hS hl)
theorem z_tswI (hC : Cx p s m args c cc nL own G tys A) {dflt lo hi : Int} {offs : Array Int} {len q tgt : Nat} {x : Int32} {off : Int} (hdg : decode cc pc = .ok (.tableswitch dflt lo hi offs, len)) (hx : x = nI q) (hq : q < 2 ^ 31) (h1 : lo = 0) (h2 : (q : Int) ≤ hi) (ho : offs[q]? = some off) (ht : (pc : Int) + off = (tgt : Int)) (k : ZZ p l e R s m args below meth c G A nL cells slots Q ws lv tgt rest) : ZZ p l e R s m args below meth c G A nL cells slots Q ws lv pc (.int x :: rest) := by
  subst hx; subst h1
  intro H locs ls hP hD hS hl
  have e1 := nI_toInt hq
  exact lv_tableIn hC.1 hC.2.1 hdg (by rw [e1]; omega) (by rw [e1]; omega) (by rw [e1]; simpa using ho) ht (k H locs ls hP hD hS hl)
theorem z_tswO (hC : Cx p s m args c cc nL own G tys A) {dflt lo hi : Int} {offs : Array Int} {len q tgt : Nat} {x : Int32} (hdg : decode cc pc = .ok (.tableswitch dflt lo hi offs, len)) (hx : x = nI q) (hq : q < 2 ^ 31) (h2 : hi < (q : Int)) (ht : (pc : Int) + dflt = (tgt : Int)) (k : ZZ p l e R s m args below meth c G A nL cells slots Q ws lv tgt rest) : ZZ p l e R s m args below meth c G A nL cells slots Q ws lv pc (.int x :: rest) := by
  subst hx
  intro H locs ls hP hD hS hl
  have e1 := nI_toInt hq
  exact lv_tableOut hC.1 hC.2.1 hdg (Or.inr (by rw [e1]; exact h2)) ht (k H locs ls hP hD hS hl)
end ZL
/-- what stays through the law -/
def LX (p : Program) (l : Launch) (s : State) (m : MethodId) (args : Array Value) (c : Code) (G : va_G) (A : Nat → Prop) (cI cZ cJ : ClassId) (b0 L : Nat) (xs : Nat → Int32) : Prop :=
  Cx p s m args c cL_law 9 RL G (tY cI cZ cJ) A ∧ l.stackTraces = false ∧ zC s ∧ va_X b0 L xs s s.heap ∧ b0 < s.heap.size ∧ ¬ A b0 ∧ L ≤ 2048
/-- the law at pc, ahead of the call i / 4 -/
def LZ (p : Program) (l : Launch) (e : Env) (s : State) (m : MethodId) (args : Array Value) (below : List Frame) (meth : Method) (c : Code) (G : va_G) (A : Nat → Prop) (Q : State → Prop) (cI cZ cJ : ClassId) (b0 h o : Nat) (ta sa ua ma : Nat → Nat) (cells slots i pc : Nat) (T : Nat) (b r sw st fa sc fi mi : Nat → Int32) (lf hi : Nat → Bool) (n : Nat) (sw2 st2 fa2 sc2 fi2 mi2 : Nat → Int32) (lf2 hi2 : Nat → Bool) (n2 : Nat) (th : Int32) (K : Nat → Int32) (ov : Nat → Int64) : Prop :=
  ZZ p l e room_1 s m args below meth c G A 9 cells slots Q ((wH h ta sa ua T) ++ (wT ta cI b r) ++ (wS sa cI cZ sw st fa sc fi mi lf hi n) ++ (wS ua cI cZ sw2 st2 fa2 sc2 fi2 mi2 lf2 hi2 n2) ++ (wN ma cI th n sw st b r T sc fi mi fa K) ++ (wO o cJ ov)) [(0, .ref b0), (1, .ref h), (2, .ref (ma 0)), (3, .ref o), (4, .int (nI i))] pc []
/-- ahead of the call j, in any state that keeps the bounds -/
def LPj (p : Program) (l : Launch) (e : Env) (s : State) (m : MethodId) (args : Array Value) (below : List Frame) (meth : Method) (c : Code) (G : va_G) (A : Nat → Prop) (Q : State → Prop) (cI cZ cJ : ClassId) (b0 h o : Nat) (ta sa ua ma : Nat → Nat) (j : Nat) : Prop :=
  ∀ (i T : Nat) (b r sw st fa sc fi mi : Nat → Int32) (lf hi : Nat → Bool) (n : Nat) (sw2 st2 fa2 sc2 fi2 mi2 : Nat → Int32) (lf2 hi2 : Nat → Bool) (n2 : Nat) (th : Int32) (K : Nat → Int32) (ov : Nat → Int64), i = 4 * j → iv j T n b r st fa mi →
    LZ p l e s m args below meth c G A Q cI cZ cJ b0 h o ta sa ua ma (30 + 7 * j) (211 + 66 * j) i 23 T b r sw st fa sc fi mi lf hi n sw2 st2 fa2 sc2 fi2 mi2 lf2 hi2 n2 th K ov
theorem cv_of {S : Type} {ws2 : S → va_W} {is js : List Nat} (N : Nat) (h : (List.range N).all (fun k => is.contains k || js.contains k) = true) (hl : ∀ u, (ws2 u).length = N) : ∀ u, (List.range (ws2 u).length).all (fun k => is.contains k || js.contains k) = true := fun u => by
  rw [hl u]
  exact h
