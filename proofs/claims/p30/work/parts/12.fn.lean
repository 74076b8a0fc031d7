/-! What both sides compute: one function each. And the worlds: the class's object and what it holds, the model, the law's own array. -/
abbrev tY (cI cZ cJ : ClassId) : List (ClassId × FieldType) := [(cI, .int), (cZ, .boolean), (cJ, .array .int)]
/-- the traps -/
abbrev wT (a : Nat → Nat) (cI : ClassId) (b r : Nat → Int32) : va_W := [(a 0, .inr (1, [.ref (a 1), .ref (a 2)])), (a 1, .inl (cI, 5, .inl b)), (a 2, .inl (cI, 5, .inl r))]
/-- the class's own object -/
abbrev wH (h : Nat) (ta sa ua : Nat → Nat) (T : Nat) : va_W := [(h, .inr (2, [.ref (ta 0), .ref (sa 0), .ref (ua 0), .int (nI T)]))]
theorem upd_upd {f : Nat → Int32} {k : Nat} {x y : Int32} : upd (upd f k x) k y = upd f k y := by
  funext j
  unfold upd
  by_cases h : j = k <;> simp [h]
theorem upd_id {f : Nat → Int32} {k : Nat} : upd f k (f k) = f := by
  funext j
  unfold upd
  by_cases h : j = k <;> simp [h]
theorem upd_ne {f : Nat → Int32} {k j : Nat} {x : Int32} (h : j ≠ k) : upd f k x j = f j := if_neg h
def absF (x : Int32) : Int32 := if 0 ≤ x then x else 0 - x
def maxF (x y : Int32) : Int32 := if x < y then y else x
/-- the angle of a clay at a stand -/
def angF (b r : Nat → Int32) (s c : Nat) : Int32 := b s + r s * (nI c - nI 2) / nI 2
/-- the stand of a gun in a turn -/
def stF (T g : Nat) : Nat := (g + T / 5) % 5
def amF (b r : Nat → Int32) (T g : Nat) : Int32 := absF (angF b r (stF T g) (T % 5))
/-- the trouble; what a shot does -/
def trF (st fa am : Int32) : Int32 := if nI 1 ≤ st then am + fa / st else am
def ouF (sw st fa am : Int32) : Int32 := if sw < trF st fa am then (if sw < am then nI 0 else nI 1) else nI 2
/-- a gun: score, firsts, misses, fatigue; a shot with outcome o; a whole turn; k turns -/
def shQ (o : Int32) (q : Int32 × Int32 × Int32 × Int32) : Int32 × Int32 × Int32 × Int32 := (q.1 + o, (if o = nI 2 then q.2.1 + nI 1 else q.2.1), (if o = 0 then q.2.2.1 + nI 1 else q.2.2.1), q.2.2.2 + (if o = nI 2 then nI 1 else nI 2))
def tuQ (sw st : Int32) (b r : Nat → Int32) (T g : Nat) (q : Int32 × Int32 × Int32 × Int32) : Int32 × Int32 × Int32 × Int32 :=
  let p := shQ (ouF sw st q.2.2.2 (amF b r T g)) q
  (p.1, p.2.1, p.2.2.1, if T % 5 = 4 then maxF (nI 0) (p.2.2.2 - nI 3) else p.2.2.2)
def ruQ (sw st : Int32) (b r : Nat → Int32) (T g : Nat) (q : Int32 × Int32 × Int32 × Int32) : Nat → Int32 × Int32 × Int32 × Int32
  | 0 => q
  | k + 1 => tuQ sw st b r (T + k) g (ruQ sw st b r T g q k)
/-- the clay with the greatest amount, of the first k + 1 -/
def haF (b r : Nat → Int32) (s : Nat) : Nat → Nat
  | 0 => 0
  | k + 1 => if absF (angF b r s (k + 1)) ≤ absF (angF b r s (haF b r s k)) then haF b r s k else k + 1
theorem haF_le (b r : Nat → Int32) (s : Nat) : ∀ k, haF b r s k ≤ k
  | 0 => Nat.le_refl 0
  | k + 1 => by
    have h := haF_le b r s k
    unfold haF
    split <;> omega
/-- the greatest amount of the first k stands, at least x -/
def grF (b r : Nat → Int32) (x : Int32) : Nat → Int32
  | 0 => x
  | k + 1 => maxF (grF b r x k) (absF (angF b r k (haF b r k 4)))
/-- the first of those with the greatest score, of k + 1 guns -/
def leF (sc : Nat → Int32) : Nat → Nat
  | 0 => 0
  | k + 1 => if sc (k + 1) ≤ sc (leF sc k) then leF sc k else k + 1
theorem leF_le (sc : Nat → Int32) : ∀ k, leF sc k ≤ k
  | 0 => Nat.le_refl 0
  | k + 1 => by
    have h := leF_le sc k
    unfold leF
    split <;> omega
def ldF (sc : Nat → Int32) (n : Nat) : Int32 := if n = 0 then (-1) else nI (leF sc (n - 1))
/-- how many of the first k guns -/
def ctF (p : Nat → Bool) : Nat → Nat
  | 0 => 0
  | k + 1 => ctF p k + (if p k then 1 else 0)
theorem ctF_le (p : Nat → Bool) : ∀ k, ctF p k ≤ k
  | 0 => Nat.le_refl 0
  | k + 1 => by
    have h := ctF_le p k
    unfold ctF
    split <;> omega
def smF (f : Nat → Int32) : Nat → Int32
  | 0 => nI 0
  | k + 1 => smF f k + f k
/-- a function changed at the first k places -/
def pwF {α : Type} (f h : Nat → α) (k : Nat) : Nat → α := fun g => if g < k then h g else f g
theorem pwF_0 {α : Type} {f h : Nat → α} : pwF f h 0 = f := by
  funext g
  simp [pwF]
theorem pwF_at {α : Type} {f h : Nat → α} {k j : Nat} (hj : k ≤ j) : pwF f h k j = f j := if_neg (by omega)
theorem pwF_lt {α : Type} {f h : Nat → α} {k j : Nat} (hj : j < k) : pwF f h k j = h j := if_pos hj
theorem pwF_e {f h : Nat → Int32} {k : Nat} {v : Int32} (e : v = h k) : upd (pwF f h k) k v = pwF f h (k + 1) := by
  funext g
  unfold upd pwF
  by_cases e1 : g = k
  · subst e1; simp [e]
  · by_cases e2 : g < k
    · simp [e1, e2, Nat.lt_succ_of_lt e2]
    · simp [e1, e2, show ¬ g < k + 1 by omega]
theorem pwF_s {f h : Nat → Int32} {k : Nat} : upd (pwF f h k) k (h k) = pwF f h (k + 1) := pwF_e rfl
theorem pwF_k {α : Type} {f h : Nat → α} {k : Nat} (e : f k = h k) : pwF f h k = pwF f h (k + 1) := by
  funext g
  unfold pwF
  by_cases e1 : g = k
  · subst e1; simp [e]
  · by_cases e2 : g < k
    · simp [e2, Nat.lt_succ_of_lt e2]
    · simp [e2, show ¬ g < k + 1 by omega]
/-- booleans in arrays -/
def bN (b : Bool) : Int32 := if b = true then nI 1 else nI 0
def bI (p : Nat → Bool) : Nat → Int32 := fun g => bN (p g)
def updB (p : Nat → Bool) (k : Nat) (b : Bool) : Nat → Bool := fun j => if j = k then b else p j
theorem bI_upd {p : Nat → Bool} {k : Nat} {b : Bool} : upd (bI p) k (bN b) = bI (updB p k b) := by
  funext j
  unfold upd bI updB
  by_cases h : j = k <;> simp [h]
theorem bI_pw {p h : Nat → Bool} {k : Nat} {b : Bool} (e : b = h k) : upd (bI (pwF p h k)) k (bN b) = bI (pwF p h (k + 1)) := by
  funext g
  unfold upd bI pwF
  by_cases e1 : g = k
  · subst e1; simp [e]
  · by_cases e2 : g < k
    · simp [e1, e2, Nat.lt_succ_of_lt e2]
    · simp [e1, e2, show ¬ g < k + 1 by omega]
theorem nar_b {b : Bool} : vp_nar .boolean (bN b) = bN b := by cases b <;> rfl
theorem narr_b {b : Bool} : narrow .boolean (.int (bN b)) = .int (bN b) := by cases b <;> rfl
/-- a squad -/
abbrev wS (a : Nat → Nat) (cI cZ : ClassId) (sw st fa sc fi mi : Nat → Int32) (lf hi : Nat → Bool) (n : Nat) : va_W := [(a 0, .inr (0, [.ref (a 1), .ref (a 2), .ref (a 3), .ref (a 4), .ref (a 5), .ref (a 6), .ref (a 7), .ref (a 8), .int (nI n)])), (a 1, .inl (cI, 6, .inl sw)), (a 2, .inl (cI, 6, .inl st)), (a 3, .inl (cI, 6, .inl fa)), (a 4, .inl (cI, 6, .inl sc)), (a 5, .inl (cI, 6, .inl fi)), (a 6, .inl (cI, 6, .inl mi)), (a 7, .inl (cZ, 6, .inl (bI lf))), (a 8, .inl (cZ, 6, .inl (bI hi)))]
section ZB
variable {p : Program} {l : Launch} {e : Env} {R : Room} {s : State} {m : MethodId} {args : Array Value} {below : List Frame} {meth : Method} {c : Code} {cc : ByteArray} {nL : Nat} {own : String} {G : va_G} {tys : List (ClassId × FieldType)} {A : Nat → Prop} {cells slots : Nat} {Q : State → Prop}
variable {ws : va_W} {lv : List (Nat × Value)} {pc n : Nat} {rest : List Value}
theorem z_if_eq_b (hC : Cx p s m args c cc nL own G tys A) (b : Bool) {x : Int32} (hx : x = bN b) {off : Int} {tgt : Nat} (hdg : decode cc pc = .ok (.ifCond .eq off, 3)) (ht : (pc : Int) + off = (tgt : Int)) (hn : pc + 3 = n) (kt : b = false → ZZ p l e R s m args below meth c G A nL cells slots Q ws lv tgt rest) (kf : b = true → ZZ p l e R s m args below meth c G A nL cells slots Q ws lv n rest) : ZZ p l e R s m args below meth c G A nL cells slots Q ws lv pc (.int x :: rest) := by
  subst hx
  cases b
  · exact z_if_eq hC hdg ht hn (fun _ => kt rfl) (fun h => absurd rfl h)
  · exact z_if_eq hC hdg ht hn (fun h => absurd h (by decide)) (fun _ => kf rfl)
theorem z_if_ne_b (hC : Cx p s m args c cc nL own G tys A) (b : Bool) {x : Int32} (hx : x = bN b) {off : Int} {tgt : Nat} (hdg : decode cc pc = .ok (.ifCond .ne off, 3)) (ht : (pc : Int) + off = (tgt : Int)) (hn : pc + 3 = n) (kt : b = true → ZZ p l e R s m args below meth c G A nL cells slots Q ws lv tgt rest) (kf : b = false → ZZ p l e R s m args below meth c G A nL cells slots Q ws lv n rest) : ZZ p l e R s m args below meth c G A nL cells slots Q ws lv pc (.int x :: rest) := by
  subst hx
  cases b
  · exact z_if_ne hC hdg ht hn (fun h => absurd rfl h) (fun _ => kf rfl)
  · exact z_if_ne hC hdg ht hn (fun _ => kt rfl) (fun h => absurd h (by decide))
end ZB
theorem xor_nI (a b : Nat) : nI a ^^^ nI b = nI (a ^^^ b) := Int32.toBitVec_inj.mp (by
  show BitVec.ofNat 32 a ^^^ BitVec.ofNat 32 b = BitVec.ofNat 32 (a ^^^ b)
  exact (BitVec.ofNat_xor).symm)
theorem ne0_1 {x : Int32} (h : nI 1 ≤ x) : ¬ x = 0 := by
  rintro rfl
  exact absurd h (by decide)
theorem nI_m1 {n : Nat} (h : n < 2 ^ 31) : ¬ nI n = (-1) := by
  intro e
  have h1 := nI_toInt h
  rw [e] at h1
  have h2 : (-1 : Int32).toInt = -1 := by decide
  omega
theorem ldF_0 {sc : Nat → Int32} {n : Nat} (h : n = 0) : ldF sc n = (-1) := if_pos h
theorem ldF_pos {sc : Nat → Int32} {n : Nat} (h : 0 < n) : ldF sc n = nI (leF sc (n - 1)) := if_neg (by omega)
theorem ldF_keep {sc : Nat → Int32} {i : Nat} (h : 0 < i) (c : sc i ≤ sc (leF sc (i - 1))) : ldF sc (i + 1) = nI (leF sc (i - 1)) := by
  obtain ⟨k, rfl⟩ : ∃ k, i = k + 1 := ⟨i - 1, by omega⟩
  rw [ldF_pos (Nat.succ_pos _)]
  show nI (leF sc (k + 1)) = nI (leF sc k)
  rw [show leF sc (k + 1) = leF sc k from if_pos c]
theorem ldF_take {sc : Nat → Int32} {i : Nat} (h : 0 < i) (c : ¬ sc i ≤ sc (leF sc (i - 1))) : ldF sc (i + 1) = nI i := by
  obtain ⟨k, rfl⟩ : ∃ k, i = k + 1 := ⟨i - 1, by omega⟩
  rw [ldF_pos (Nat.succ_pos _)]
  show nI (leF sc (k + 1)) = nI (k + 1)
  rw [show leF sc (k + 1) = k + 1 from if_neg c]
theorem ldF_1 {sc : Nat → Int32} {i : Nat} (h : i = 0) : ldF sc (i + 1) = nI i := by
  subst h
  rfl
/-- k turns of the guns alone: score, firsts, misses, fatigue of the gun g -/
def plS (sw st b r sc fi mi fa : Nat → Int32) (T k : Nat) : Nat → Int32 := fun g => (ruQ (sw g) (st g) b r T g (sc g, fi g, mi g, fa g) k).1
def plF (sw st b r sc fi mi fa : Nat → Int32) (T k : Nat) : Nat → Int32 := fun g => (ruQ (sw g) (st g) b r T g (sc g, fi g, mi g, fa g) k).2.1
def plM (sw st b r sc fi mi fa : Nat → Int32) (T k : Nat) : Nat → Int32 := fun g => (ruQ (sw g) (st g) b r T g (sc g, fi g, mi g, fa g) k).2.2.1
def plA (sw st b r sc fi mi fa : Nat → Int32) (T k : Nat) : Nat → Int32 := fun g => (ruQ (sw g) (st g) b r T g (sc g, fi g, mi g, fa g) k).2.2.2
/-- a shoot-off's round: who hits; whether some do; who is left; the fatigues -/
def htB (sw st fa : Nat → Int32) (lf : Nat → Bool) (am : Int32) : Nat → Bool := fun g => lf g && !decide (sw g < trF (st g) (fa g) am)
def anB (h : Nat → Bool) : Nat → Bool
  | 0 => false
  | k + 1 => anB h k || h k
def upA (fa : Nat → Int32) (lf : Nat → Bool) : Nat → Int32 := fun g => if lf g = true then fa g + nI 1 else fa g
def soL (sw st fa : Nat → Int32) (lf : Nat → Bool) (n : Nat) (am : Int32) : Nat → Bool := if anB (htB sw st fa lf am) n = true then pwF lf (htB sw st fa lf am) n else lf
/-- at most m rounds, from round k on -/
def soF (sw st : Nat → Int32) (n : Nat) : Nat → Nat → (Nat → Bool) → (Nat → Int32) → (Nat → Bool) × (Nat → Int32)
  | 0, _, lf, fa => (lf, fa)
  | m + 1, k, lf, fa => if ctF lf n ≤ 1 then (lf, fa) else soF sw st n m (k + 1) (soL sw st fa lf n (nI (6 * k))) (pwF fa (upA fa lf) n)
/-- the first of n, or n -/
def fiN (p : Nat → Bool) : Nat → Nat
  | 0 => 0
  | k + 1 => if fiN p k < k then fiN p k else if p k = true then k else k + 1
theorem fiN_no {p : Nat → Bool} : ∀ {n : Nat}, (∀ g, g < n → p g = false) → fiN p n = n
  | 0, _ => rfl
  | n + 1, h => by
    have h1 : fiN p n = n := fiN_no (fun g hg => h g (by omega))
    simp [fiN, h1, h n (by omega)]
theorem fiN_yes {p : Nat → Bool} {i : Nat} (h : ∀ g, g < i → p g = false) (hi : p i = true) : ∀ {n : Nat}, i < n → fiN p n = i
  | 0, hn => absurd hn (Nat.not_lt_zero _)
  | n + 1, hn => by
    by_cases e : i = n
    · subst e
      simp [fiN, fiN_no h, hi]
    · have h1 : fiN p n = i := fiN_yes h hi (by omega)
      simp [fiN, h1, show i < n by omega]
theorem fiN_lt {p : Nat → Bool} {g n : Nat} (hg : g < n) (h : p g = true) : fiN p n < n := by
  induction n with
  | zero => exact absurd hg (Nat.not_lt_zero _)
  | succ n ih =>
    unfold fiN
    by_cases e : g = n
    · subst e
      by_cases e2 : fiN p g < g
      · rw [if_pos e2]; omega
      · rw [if_neg e2, if_pos h]; omega
    · have := ih (by omega)
      rw [if_pos this]; omega
theorem fiN_at {p : Nat → Bool} {n : Nat} (h : fiN p n < n) : p (fiN p n) = true := by
  induction n with
  | zero => exact absurd h (Nat.not_lt_zero _)
  | succ n ih =>
    unfold fiN at h ⊢
    by_cases e : fiN p n < n
    · rw [if_pos e]; exact ih e
    · rw [if_neg e] at h ⊢
      by_cases e2 : p n = true
      · rw [if_pos e2]; exact e2
      · rw [if_neg e2] at h; omega
def fsF (p : Nat → Bool) (n : Nat) : Int32 := if fiN p n < n then nI (fiN p n) else (-1)
theorem anB_of {h : Nat → Bool} {g n : Nat} (hg : g < n) (e : h g = true) : anB h n = true := by
  induction n with
  | zero => exact absurd hg (Nat.not_lt_zero _)
  | succ n ih =>
    unfold anB
    by_cases e2 : g = n
    · subst e2; simp [e]
    · simp [ih (by omega)]
theorem anB_ex {h : Nat → Bool} {n : Nat} (e : anB h n = true) : ∃ g, g < n ∧ h g = true := by
  induction n with
  | zero => cases e
  | succ n ih =>
    unfold anB at e
    rcases Bool.or_eq_true _ _ ▸ e with e | e
    · obtain ⟨g, h1, h2⟩ := ih e
      exact ⟨g, by omega, h2⟩
    · exact ⟨n, by omega, e⟩
theorem anB_cong {h h' : Nat → Bool} : ∀ {n : Nat}, (∀ g, g < n → h g = h' g) → anB h n = anB h' n
  | 0, _ => rfl
  | n + 1, e => by rw [anB, anB, anB_cong (fun g hg => e g (by omega)), e n (by omega)]
theorem ctF_cong {h h' : Nat → Bool} : ∀ {n : Nat}, (∀ g, g < n → h g = h' g) → ctF h n = ctF h' n
  | 0, _ => rfl
  | n + 1, e => by rw [ctF, ctF, ctF_cong (fun g hg => e g (by omega)), e n (by omega)]
theorem fiN_cong {h h' : Nat → Bool} : ∀ {n : Nat}, (∀ g, g < n → h g = h' g) → fiN h n = fiN h' n
  | 0, _ => rfl
  | n + 1, e => by rw [fiN, fiN, fiN_cong (fun g hg => e g (by omega)), e n (by omega)]
theorem soL_cong {sw st fa : Nat → Int32} {lf lf' : Nat → Bool} {n : Nat} {am : Int32} (e : ∀ g, g < n → lf g = lf' g) : ∀ g, g < n → soL sw st fa lf n am g = soL sw st fa lf' n am g := by
  intro g hg
  have h1 : ∀ g, g < n → htB sw st fa lf am g = htB sw st fa lf' am g := fun g hg => by unfold htB; rw [e g hg]
  unfold soL
  rw [anB_cong h1]
  split
  · rw [pwF_lt hg, pwF_lt hg, h1 g hg]
  · exact e g hg
theorem soF_cong {sw st : Nat → Int32} {n : Nat} : ∀ (m k : Nat) (lf lf' : Nat → Bool) (fa : Nat → Int32), (∀ g, g < n → lf g = lf' g) → (∀ g, g < n → (soF sw st n m k lf fa).1 g = (soF sw st n m k lf' fa).1 g) ∧ (soF sw st n m k lf fa).2 = (soF sw st n m k lf' fa).2
  | 0, k, lf, lf', fa, e => ⟨e, rfl⟩
  | m + 1, k, lf, lf', fa, e => by
    unfold soF
    rw [ctF_cong e]
    split
    · exact ⟨e, rfl⟩
    · have h2 : pwF fa (upA fa lf) n = pwF fa (upA fa lf') n := by
        funext g
        unfold pwF
        by_cases hg : g < n
        · rw [if_pos hg, if_pos hg]; unfold upA; rw [e g hg]
        · rw [if_neg hg, if_neg hg]
      rw [h2]
      exact soF_cong m (k + 1) _ _ _ (soL_cong e)
theorem soL_some {sw st fa : Nat → Int32} {lf : Nat → Bool} {n : Nat} {am : Int32} (h : ∃ g, g < n ∧ lf g = true) : ∃ g, g < n ∧ soL sw st fa lf n am g = true := by
  unfold soL
  split
  · rename_i hh
    obtain ⟨g, h1, h2⟩ := anB_ex hh
    exact ⟨g, h1, by rw [pwF_lt h1]; exact h2⟩
  · exact h
theorem soF_some {sw st : Nat → Int32} {n : Nat} : ∀ (m k : Nat) (lf : Nat → Bool) (fa : Nat → Int32), (∃ g, g < n ∧ lf g = true) → ∃ g, g < n ∧ (soF sw st n m k lf fa).1 g = true
  | 0, k, lf, fa, h => h
  | m + 1, k, lf, fa, h => by
    unfold soF
    split
    · exact h
    · exact soF_some m (k + 1) _ _ (soL_some h)
/-- who has the greatest score; who wins; the fatigues behind -/
def beB (sc : Nat → Int32) (n : Nat) : Nat → Bool := fun g => decide (sc g = sc (leF sc (n - 1)))
def wnF (sw st sc fa : Nat → Int32) (n : Nat) : Nat := fiN (soF sw st n 9 1 (beB sc n) fa).1 n
def waF (sw st sc fa : Nat → Int32) (n : Nat) : Nat → Int32 := (soF sw st n 9 1 (beB sc n) fa).2
theorem beB_some {sc : Nat → Int32} {n : Nat} (hn : 0 < n) : ∃ g, g < n ∧ beB sc n g = true := ⟨leF sc (n - 1), by have := leF_le sc (n - 1); omega, by simp [beB]⟩
theorem wnF_lt {sw st sc fa : Nat → Int32} {n : Nat} (hn : 0 < n) : wnF sw st sc fa n < n := by
  obtain ⟨g, h1, h2⟩ := soF_some (sw := sw) (st := st) 9 1 (beB sc n) fa (beB_some hn)
  exact fiN_lt h1 h2
theorem pwF_pw {α : Type} {f g h : Nat → α} {n : Nat} : pwF f (pwF g h n) n = pwF f h n := by
  funext j
  unfold pwF
  by_cases e : j < n <;> simp [e]
theorem no_step {p : Nat → Bool} {i : Nat} (h : ∀ g, g < i → p g = false) (c : p i = false) : ∀ g, g < i + 1 → p g = false := by
  intro g hg
  by_cases e : g = i
  · rw [e]; exact c
  · exact h g (by omega)
theorem so_stop {sw st : Nat → Int32} {n k : Nat} {lf : Nat → Bool} {fa : Nat → Int32} {X : (Nat → Bool) × (Nat → Int32)} (hk : k < 10) (hu : soF sw st n (10 - k) k lf fa = X) (c : ctF lf n ≤ 1) : X = (lf, fa) := by
  rw [show 10 - k = (9 - k) + 1 by omega] at hu
  unfold soF at hu
  rw [if_pos c] at hu
  exact hu.symm
theorem so_go {sw st : Nat → Int32} {n k : Nat} {lf : Nat → Bool} {fa : Nat → Int32} {X : (Nat → Bool) × (Nat → Int32)} (hk : k < 10) (hu : soF sw st n (10 - k) k lf fa = X) (c : 1 < ctF lf n) : soF sw st n (10 - (k + 1)) (k + 1) (soL sw st fa lf n (nI (6 * k))) (pwF fa (upA fa lf) n) = X := by
  rw [show 10 - k = (10 - (k + 1)) + 1 by omega] at hu
  unfold soF at hu
  rw [if_neg (by omega)] at hu
  exact hu
theorem so_end {sw st sc fa : Nat → Int32} {n : Nat} {lf lf1 : Nat → Bool} {fa1 : Nat → Int32} (hn : 0 < n) (h : soF sw st n 9 1 (pwF lf (beB sc n) n) fa = (lf1, fa1)) : fsF lf1 n = nI (wnF sw st sc fa n) ∧ fa1 = waF sw st sc fa n := by
  obtain ⟨h1, h2⟩ := soF_cong (sw := sw) (st := st) (n := n) 9 1 (pwF lf (beB sc n) n) (beB sc n) fa (fun g hg => pwF_lt hg)
  rw [h] at h1 h2
  have e : fiN lf1 n = wnF sw st sc fa n := fiN_cong h1
  refine ⟨?_, h2⟩
  unfold fsF
  rw [e, if_pos (wnF_lt hn)]
/-- in how many turns, of 100 (p: a miss that many turns ahead) -/
def umF (p : Nat → Bool) (n : Nat) : Int32 := if fiN p n < n then nI (fiN p n + 1) else (-1)
def miB (sw b r : Nat → Int32) (T g : Nat) : Nat → Bool := fun i => decide (¬ amF b r (T + i) g ≤ sw g)
/-- the score behind 25 turns with a rest behind j -/
def reF (sw st b r sc fi mi fa : Nat → Int32) (T g j : Nat) : Int32 :=
  (ruQ (sw g) (st g) b r (T + j) g ((ruQ (sw g) (st g) b r T g (sc g, fi g, mi g, fa g) j).1, (ruQ (sw g) (st g) b r T g (sc g, fi g, mi g, fa g) j).2.1, (ruQ (sw g) (st g) b r T g (sc g, fi g, mi g, fa g) j).2.2.1, nI 0) (25 - j)).1
def brF (f : Nat → Int32) : Nat → Nat
  | 0 => 0
  | k + 1 => if f (k + 1) ≤ f (brF f k) then brF f k else k + 1
theorem brF_le (f : Nat → Int32) : ∀ k, brF f k ≤ k
  | 0 => Nat.le_refl 0
  | k + 1 => by
    have h := brF_le f k
    unfold brF
    split <;> omega
def swF (b r : Nat → Int32) : Int32 := if maxF (nI 5) (grF b r (nI 0) 5) ≤ nI 60 then maxF (nI 5) (grF b r (nI 0) 5) else (-1)
def meF (sc : Nat → Int32) (n : Nat) : UInt64 := if n = 0 then FP.dconst0 else FP.ddiv (FP.i2d (smF sc n)) (FP.i2d (nI n))
def wwF (sw st sc fa : Nat → Int32) (n : Nat) : Int32 := if n = 0 then (-1) else nI (wnF sw st sc fa n)
theorem leF_cong {sc sc' : Nat → Int32} : ∀ {k : Nat}, (∀ g, g ≤ k → sc g = sc' g) → leF sc k = leF sc' k
  | 0, _ => rfl
  | k + 1, e => by
    have h := leF_le sc' k
    rw [leF, leF, leF_cong (fun g hg => e g (by omega)), e (k + 1) (Nat.le_refl _), e (leF sc' k) (by omega)]
theorem ldF_cong {sc sc' : Nat → Int32} {n : Nat} (e : ∀ g, g < n → sc g = sc' g) : ldF sc n = ldF sc' n := by
  unfold ldF
  split
  · rfl
  · rw [leF_cong (fun g hg => e g (by omega))]
theorem beB_cong {sc sc' : Nat → Int32} {n : Nat} (e : ∀ g, g < n → sc g = sc' g) : ∀ g, g < n → beB sc n g = beB sc' n g := by
  intro g hg
  have h := leF_le sc' (n - 1)
  unfold beB
  rw [leF_cong (sc' := sc') (fun j hj => e j (by omega)), e g hg, e (leF sc' (n - 1)) (by omega)]
theorem htB_cong {sw sw' st st' fa fa' : Nat → Int32} {lf lf' : Nat → Bool} {n : Nat} {am : Int32} (h1 : ∀ g, g < n → sw g = sw' g) (h2 : ∀ g, g < n → st g = st' g) (h3 : ∀ g, g < n → fa g = fa' g) (h4 : ∀ g, g < n → lf g = lf' g) : ∀ g, g < n → htB sw st fa lf am g = htB sw' st' fa' lf' am g := by
  intro g hg
  unfold htB
  rw [h1 g hg, h2 g hg, h3 g hg, h4 g hg]
theorem soF_congA {sw sw' st st' : Nat → Int32} {n : Nat} (h1 : ∀ g, g < n → sw g = sw' g) (h2 : ∀ g, g < n → st g = st' g) : ∀ (m k : Nat) (lf lf' : Nat → Bool) (fa fa' : Nat → Int32), (∀ g, g < n → fa g = fa' g) → (∀ g, g < n → lf g = lf' g) → ∀ g, g < n → (soF sw st n m k lf fa).1 g = (soF sw' st' n m k lf' fa').1 g
  | 0, k, lf, lf', fa, fa', h3, h4, g, hg => h4 g hg
  | m + 1, k, lf, lf', fa, fa', h3, h4, g, hg => by
    unfold soF
    rw [ctF_cong h4]
    split
    · exact h4 g hg
    · refine soF_congA h1 h2 m (k + 1) _ _ _ _ (fun j hj => ?_) (fun j hj => ?_) g hg
      · rw [pwF_lt hj, pwF_lt hj]; unfold upA; rw [h4 j hj, h3 j hj]
      · unfold soL
        rw [anB_cong (htB_cong h1 h2 h3 h4)]
        split
        · rw [pwF_lt hj, pwF_lt hj]; exact htB_cong h1 h2 h3 h4 j hj
        · exact h4 j hj
theorem wnF_cong {sw sw' st st' sc sc' fa fa' : Nat → Int32} {n : Nat} (h1 : ∀ g, g < n → sw g = sw' g) (h2 : ∀ g, g < n → st g = st' g) (h3 : ∀ g, g < n → sc g = sc' g) (h4 : ∀ g, g < n → fa g = fa' g) : wnF sw st sc fa n = wnF sw' st' sc' fa' n :=
  fiN_cong (soF_congA h1 h2 9 1 _ _ _ _ h4 (beB_cong h3))
theorem nnan (x : Int32) {n : Nat} (h0 : 0 < n) (h : n ≤ 6) : vf_n64 (FP.ddiv (FP.i2d x) (FP.i2d (nI n))) := by
  have h1 : FP.Core.dIsNaN (FP.Core.ddiv (FP.Core.i2d x) (FP.Core.i2d (nI n))) = false := FP.Core.ddiv_out (FP.Core.i2d_fin x).notNaN (FP.Core.i2d_fin _) (fun hz => FP.Core.i2d_ne_zero (nI_ne0 h0 (by omega)) ((FP.Core.zero_bits2 _).mp hz))
  have h2 : ¬ 9218868437227405312 < (FP.Core.ddiv (FP.Core.i2d x) (FP.Core.i2d (nI n))).toNat % 2 ^ 63 := fun hh => by
    rw [(FP.Core.isNaN_bits _).mpr hh] at h1
    cases h1
  show (FP.Core.ddiv (FP.Core.i2d x) (FP.Core.i2d (nI n))) &&& 0x7fffffffffffffff ≤ 0x7ff0000000000000
  rw [UInt64.le_iff_toNat_le, UInt64.toNat_and, show (0x7fffffffffffffff : UInt64).toNat = 2 ^ 63 - 1 from rfl, Nat.and_two_pow_sub_one_eq_mod]
  show _ ≤ 9218868437227405312
  omega
