/-! What both sides compute: one function each. And the worlds: the class's object and what it holds, the model, the law's own array. -/
abbrev tY (cI cZ cJ : ClassId) : List (ClassId × FieldType) := [(cI, .int), (cZ, .boolean), (cJ, .long)]
/-- the traps -/
abbrev wT (a : Nat → Nat) (cI : ClassId) (b r : Nat → Int32) : va_W := [(a 0, .inr (1, [.ref (a 1), .ref (a 2)])), (a 1, .inl (cI, 5, .inl b)), (a 2, .inl (cI, 5, .inl r))]
/-- a squad -/
abbrev wS (a : Nat → Nat) (cI cZ : ClassId) (sw st fa sc fi mi lf hi : Nat → Int32) (n : Nat) : va_W := [(a 0, .inr (0, [.ref (a 1), .ref (a 2), .ref (a 3), .ref (a 4), .ref (a 5), .ref (a 6), .ref (a 7), .ref (a 8), .int (nI n)])), (a 1, .inl (cI, 6, .inl sw)), (a 2, .inl (cI, 6, .inl st)), (a 3, .inl (cI, 6, .inl fa)), (a 4, .inl (cI, 6, .inl sc)), (a 5, .inl (cI, 6, .inl fi)), (a 6, .inl (cI, 6, .inl mi)), (a 7, .inl (cZ, 6, .inl lf)), (a 8, .inl (cZ, 6, .inl hi))]
/-- the class's own object -/
abbrev wH (h : Nat) (ta sa ua : Nat → Nat) (T : Nat) : va_W := [(h, .inr (2, [.ref (ta 0), .ref (sa 0), .ref (ua 0), .int (nI T)]))]
/-- the model -/
abbrev wM (a : Nat → Nat) (cI : ClassId) (th : Int32) (n : Nat) (sw st b r N K : Nat → Int32) : va_W := [(a 0, .inr (3, [.int th, .int (nI n), .ref (a 1), .ref (a 2), .ref (a 3), .ref (a 4), .ref (a 5), .ref (a 6)])), (a 1, .inl (cI, 6, .inl sw)), (a 2, .inl (cI, 6, .inl st)), (a 3, .inl (cI, 5, .inl b)), (a 4, .inl (cI, 5, .inl r)), (a 5, .inl (cI, 25, .inl N)), (a 6, .inl (cI, 25, .inl K))]
/-- the law's own array of one long -/
abbrev wO (o : Nat) (cJ : ClassId) (ov : Nat → Int64) : va_W := [(o, .inl (cJ, 1, .inr (.inl ov)))]
theorem upd_upd {f : Nat → Int32} {k : Nat} {x y : Int32} : upd (upd f k x) k y = upd f k y := by
  funext j
  unfold upd
  by_cases h : j = k <;> simp [h]
theorem upd_id {f : Nat → Int32} {k : Nat} : upd f k (f k) = f := by
  funext j
  unfold upd
  by_cases h : j = k <;> simp [h]
theorem upd_ne {f : Nat → Int32} {k j : Nat} {x : Int32} (h : j ≠ k) : upd f k x j = f j := if_neg h
def absF (x : Int32) : Int32 := if 0 ≤ x then x else 0 - x
def maxF (x y : Int32) : Int32 := if x < y then y else x
/-- the angle of a clay at a stand -/
def angF (b r : Nat → Int32) (s c : Nat) : Int32 := b s + r s * (nI c - nI 2) / nI 2
/-- the stand of a gun in a turn -/
def stF (T g : Nat) : Nat := (g + T / 5) % 5
def amF (b r : Nat → Int32) (T g : Nat) : Int32 := absF (angF b r (stF T g) (T % 5))
/-- the trouble; what a shot does -/
def trF (st fa am : Int32) : Int32 := if nI 1 ≤ st then am + fa / st else am
def ouF (sw st fa am : Int32) : Int32 := if sw < trF st fa am then (if sw < am then nI 0 else nI 1) else nI 2
/-- a gun: score, firsts, misses, fatigue; a shot with outcome o; a whole turn; k turns -/
def shQ (o : Int32) (q : Int32 × Int32 × Int32 × Int32) : Int32 × Int32 × Int32 × Int32 := (q.1 + o, (if o = nI 2 then q.2.1 + nI 1 else q.2.1), (if o = 0 then q.2.2.1 + nI 1 else q.2.2.1), q.2.2.2 + (if o = nI 2 then nI 1 else nI 2))
def tuQ (sw st : Int32) (b r : Nat → Int32) (T g : Nat) (q : Int32 × Int32 × Int32 × Int32) : Int32 × Int32 × Int32 × Int32 :=
  let p := shQ (ouF sw st q.2.2.2 (amF b r T g)) q
  (p.1, p.2.1, p.2.2.1, if T % 5 = 4 then maxF (nI 0) (p.2.2.2 - nI 3) else p.2.2.2)
def ruQ (sw st : Int32) (b r : Nat → Int32) (T g : Nat) (q : Int32 × Int32 × Int32 × Int32) : Nat → Int32 × Int32 × Int32 × Int32
  | 0 => q
  | k + 1 => tuQ sw st b r (T + k) g (ruQ sw st b r T g q k)
/-- the clay with the greatest amount, of the first k + 1 -/
def haF (b r : Nat → Int32) (s : Nat) : Nat → Nat
  | 0 => 0
  | k + 1 => if absF (angF b r s (k + 1)) ≤ absF (angF b r s (haF b r s k)) then haF b r s k else k + 1
theorem haF_le (b r : Nat → Int32) (s : Nat) : ∀ k, haF b r s k ≤ k
  | 0 => Nat.le_refl 0
  | k + 1 => by
    have h := haF_le b r s k
    unfold haF
    split <;> omega
/-- the greatest amount of the first k stands, at least x -/
def grF (b r : Nat → Int32) (x : Int32) : Nat → Int32
  | 0 => x
  | k + 1 => maxF (grF b r x k) (absF (angF b r k (haF b r k 4)))
/-- the first of those with the greatest score, of k + 1 guns -/
def leF (sc : Nat → Int32) : Nat → Nat
  | 0 => 0
  | k + 1 => if sc (k + 1) ≤ sc (leF sc k) then leF sc k else k + 1
theorem leF_le (sc : Nat → Int32) : ∀ k, leF sc k ≤ k
  | 0 => Nat.le_refl 0
  | k + 1 => by
    have h := leF_le sc k
    unfold leF
    split <;> omega
def ldF (sc : Nat → Int32) (n : Nat) : Int32 := if n = 0 then (-1) else nI (leF sc (n - 1))
/-- how many of the first k guns -/
def ctF (p : Nat → Bool) : Nat → Nat
  | 0 => 0
  | k + 1 => ctF p k + (if p k then 1 else 0)
theorem ctF_le (p : Nat → Bool) : ∀ k, ctF p k ≤ k
  | 0 => Nat.le_refl 0
  | k + 1 => by
    have h := ctF_le p k
    unfold ctF
    split <;> omega
def smF (f : Nat → Int32) : Nat → Int32
  | 0 => nI 0
  | k + 1 => smF f k + f k
/-- a function changed at the first k places -/
def pwF (f h : Nat → Int32) (k : Nat) : Nat → Int32 := fun g => if g < k then h g else f g
theorem pwF_0 {f h : Nat → Int32} : pwF f h 0 = f := by
  funext g
  simp [pwF]
theorem pwF_s {f h : Nat → Int32} {k : Nat} : upd (pwF f h k) k (h k) = pwF f h (k + 1) := by
  funext g
  unfold upd pwF
  by_cases e : g = k
  · subst e; simp
  · by_cases e2 : g < k
    · simp [e, e2, Nat.lt_succ_of_lt e2]
    · simp [e, e2, show ¬ g < k + 1 by omega]
theorem pwF_at {f h : Nat → Int32} {k j : Nat} (hj : k ≤ j) : pwF f h k j = f j := if_neg (by omega)
theorem pwF_lt {f h : Nat → Int32} {k j : Nat} (hj : j < k) : pwF f h k j = h j := if_pos hj
theorem xor_nI (a b : Nat) : nI a ^^^ nI b = nI (a ^^^ b) := Int32.toBitVec_inj.mp (by
  show BitVec.ofNat 32 a ^^^ BitVec.ofNat 32 b = BitVec.ofNat 32 (a ^^^ b)
  exact (BitVec.ofNat_xor).symm)
theorem ne0_1 {x : Int32} (h : nI 1 ≤ x) : ¬ x = 0 := by
  rintro rfl
  exact absurd h (by decide)
theorem nI_m1 {n : Nat} (h : n < 2 ^ 31) : ¬ nI n = (-1) := by
  intro e
  have h1 := nI_toInt h
  rw [e] at h1
  have h2 : (-1 : Int32).toInt = -1 := by decide
  omega
theorem ldF_0 {sc : Nat → Int32} {n : Nat} (h : n = 0) : ldF sc n = (-1) := if_pos h
theorem ldF_pos {sc : Nat → Int32} {n : Nat} (h : 0 < n) : ldF sc n = nI (leF sc (n - 1)) := if_neg (by omega)
theorem ldF_keep {sc : Nat → Int32} {i : Nat} (h : 0 < i) (c : sc i ≤ sc (leF sc (i - 1))) : ldF sc (i + 1) = nI (leF sc (i - 1)) := by
  obtain ⟨k, rfl⟩ : ∃ k, i = k + 1 := ⟨i - 1, by omega⟩
  rw [ldF_pos (Nat.succ_pos _)]
  show nI (leF sc (k + 1)) = nI (leF sc k)
  rw [show leF sc (k + 1) = leF sc k from if_pos c]
theorem ldF_take {sc : Nat → Int32} {i : Nat} (h : 0 < i) (c : ¬ sc i ≤ sc (leF sc (i - 1))) : ldF sc (i + 1) = nI i := by
  obtain ⟨k, rfl⟩ : ∃ k, i = k + 1 := ⟨i - 1, by omega⟩
  rw [ldF_pos (Nat.succ_pos _)]
  show nI (leF sc (k + 1)) = nI (k + 1)
  rw [show leF sc (k + 1) = k + 1 from if_neg c]
theorem ldF_1 {sc : Nat → Int32} {i : Nat} (h : i = 0) : ldF sc (i + 1) = nI i := by
  subst h
  rfl
/-- k turns of the guns alone: score, firsts, misses, fatigue of the gun g -/
def plS (sw st b r sc fi mi fa : Nat → Int32) (T k : Nat) : Nat → Int32 := fun g => (ruQ (sw g) (st g) b r T g (sc g, fi g, mi g, fa g) k).1
def plF (sw st b r sc fi mi fa : Nat → Int32) (T k : Nat) : Nat → Int32 := fun g => (ruQ (sw g) (st g) b r T g (sc g, fi g, mi g, fa g) k).2.1
def plM (sw st b r sc fi mi fa : Nat → Int32) (T k : Nat) : Nat → Int32 := fun g => (ruQ (sw g) (st g) b r T g (sc g, fi g, mi g, fa g) k).2.2.1
def plA (sw st b r sc fi mi fa : Nat → Int32) (T k : Nat) : Nat → Int32 := fun g => (ruQ (sw g) (st g) b r T g (sc g, fi g, mi g, fa g) k).2.2.2
