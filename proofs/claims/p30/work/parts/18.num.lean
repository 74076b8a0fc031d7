/-! numbers: turns of the guns, bounds -/
theorem add0 (x : Int32) : x + nI 0 = x := by rw [nI_0]; exact Int32.add_zero x
/-- a turn, before it is walked on: each gun has shot -/
def shq (sw st b r sc fi mi fa : Nat → Int32) (T : Nat) (g : Nat) : Int32 × Int32 × Int32 × Int32 := shQ (ouF (sw g) (st g) (fa g) (amF b r T g)) (sc g, fi g, mi g, fa g)
def shS (sw st b r sc fi mi fa : Nat → Int32) (T : Nat) : Nat → Int32 := fun g => (shq sw st b r sc fi mi fa T g).1
def shF (sw st b r sc fi mi fa : Nat → Int32) (T : Nat) : Nat → Int32 := fun g => (shq sw st b r sc fi mi fa T g).2.1
def shM (sw st b r sc fi mi fa : Nat → Int32) (T : Nat) : Nat → Int32 := fun g => (shq sw st b r sc fi mi fa T g).2.2.1
def shA (sw st b r sc fi mi fa : Nat → Int32) (T : Nat) : Nat → Int32 := fun g => (shq sw st b r sc fi mi fa T g).2.2.2
def mxA (sw st b r sc fi mi fa : Nat → Int32) (T : Nat) : Nat → Int32 := fun g => maxF (nI 0) (shA sw st b r sc fi mi fa T g - nI 3)
section PL
variable {sw st b r sc fi mi fa : Nat → Int32} {T n k : Nat}
theorem pl1_S : plS sw st b r sc fi mi fa T 1 = shS sw st b r sc fi mi fa T := rfl
theorem pl1_F : plF sw st b r sc fi mi fa T 1 = shF sw st b r sc fi mi fa T := rfl
theorem pl1_M : plM sw st b r sc fi mi fa T 1 = shM sw st b r sc fi mi fa T := rfl
theorem pl1_A (h : T % 5 = 4) : plA sw st b r sc fi mi fa T 1 = mxA sw st b r sc fi mi fa T := by
  funext g
  show (tuQ (sw g) (st g) b r (T + 0) g (sc g, fi g, mi g, fa g)).2.2.2 = _
  unfold tuQ mxA shA shq
  simp only [Nat.add_zero, h, if_true]
theorem pl1_A' (h : ¬ T % 5 = 4) : plA sw st b r sc fi mi fa T 1 = shA sw st b r sc fi mi fa T := by
  funext g
  show (tuQ (sw g) (st g) b r (T + 0) g (sc g, fi g, mi g, fa g)).2.2.2 = _
  unfold tuQ shA shq
  simp only [Nat.add_zero, h, if_false]
theorem pl_0S : pwF sc (plS sw st b r sc fi mi fa T 0) n = sc := by
  funext g
  unfold pwF
  by_cases h : g < n <;> simp [h, plS, ruQ]
theorem pl_0F : pwF fi (plF sw st b r sc fi mi fa T 0) n = fi := by
  funext g
  unfold pwF
  by_cases h : g < n <;> simp [h, plF, ruQ]
theorem pl_0M : pwF mi (plM sw st b r sc fi mi fa T 0) n = mi := by
  funext g
  unfold pwF
  by_cases h : g < n <;> simp [h, plM, ruQ]
theorem pl_0A : pwF fa (plA sw st b r sc fi mi fa T 0) n = fa := by
  funext g
  unfold pwF
  by_cases h : g < n <;> simp [h, plA, ruQ]
theorem pl_sS : pwF (pwF sc (plS sw st b r sc fi mi fa T k) n) (plS sw st b r (pwF sc (plS sw st b r sc fi mi fa T k) n) (pwF fi (plF sw st b r sc fi mi fa T k) n) (pwF mi (plM sw st b r sc fi mi fa T k) n) (pwF fa (plA sw st b r sc fi mi fa T k) n) (T + k) 1) n = pwF sc (plS sw st b r sc fi mi fa T (k + 1)) n := by
  funext g
  by_cases h : g < n
  · rw [pwF_lt h, pwF_lt h]; unfold plS; simp only [pwF_lt h]; rfl
  · rw [pwF_at (by omega), pwF_at (by omega), pwF_at (by omega)]
theorem pl_sF : pwF (pwF fi (plF sw st b r sc fi mi fa T k) n) (plF sw st b r (pwF sc (plS sw st b r sc fi mi fa T k) n) (pwF fi (plF sw st b r sc fi mi fa T k) n) (pwF mi (plM sw st b r sc fi mi fa T k) n) (pwF fa (plA sw st b r sc fi mi fa T k) n) (T + k) 1) n = pwF fi (plF sw st b r sc fi mi fa T (k + 1)) n := by
  funext g
  by_cases h : g < n
  · rw [pwF_lt h, pwF_lt h]; unfold plF; simp only [pwF_lt h]; rfl
  · rw [pwF_at (by omega), pwF_at (by omega), pwF_at (by omega)]
theorem pl_sM : pwF (pwF mi (plM sw st b r sc fi mi fa T k) n) (plM sw st b r (pwF sc (plS sw st b r sc fi mi fa T k) n) (pwF fi (plF sw st b r sc fi mi fa T k) n) (pwF mi (plM sw st b r sc fi mi fa T k) n) (pwF fa (plA sw st b r sc fi mi fa T k) n) (T + k) 1) n = pwF mi (plM sw st b r sc fi mi fa T (k + 1)) n := by
  funext g
  by_cases h : g < n
  · rw [pwF_lt h, pwF_lt h]; unfold plM; simp only [pwF_lt h]; rfl
  · rw [pwF_at (by omega), pwF_at (by omega), pwF_at (by omega)]
theorem pl_sA : pwF (pwF fa (plA sw st b r sc fi mi fa T k) n) (plA sw st b r (pwF sc (plS sw st b r sc fi mi fa T k) n) (pwF fi (plF sw st b r sc fi mi fa T k) n) (pwF mi (plM sw st b r sc fi mi fa T k) n) (pwF fa (plA sw st b r sc fi mi fa T k) n) (T + k) 1) n = pwF fa (plA sw st b r sc fi mi fa T (k + 1)) n := by
  funext g
  by_cases h : g < n
  · rw [pwF_lt h, pwF_lt h]; unfold plA; simp only [pwF_lt h]; rfl
  · rw [pwF_at (by omega), pwF_at (by omega), pwF_at (by omega)]
end PL
theorem ring4 (a b x y : Int32) : (a - b) + (x - y) = (a + x) - (b + y) := by
  rw [Int32.sub_eq_add_neg, Int32.sub_eq_add_neg, Int32.sub_eq_add_neg, Int32.neg_add, Int32.sub_eq_add_neg]
  ac_rfl
theorem smF_cong {f g : Nat → Int32} : ∀ {n : Nat}, (∀ j, j < n → f j = g j) → smF f n = smF g n
  | 0, _ => rfl
  | n + 1, e => by rw [smF, smF, smF_cong (fun j hj => e j (by omega)), e n (by omega)]
theorem smF_sub (f g : Nat → Int32) : ∀ n : Nat, smF (fun zj => f zj - g zj) n = smF f n - smF g n
  | 0 => by
    show nI 0 = nI 0 - nI 0
    decide
  | n + 1 => by rw [smF, smF, smF, smF_sub f g n, ring4]
theorem pwF_wp {α : Type} {f g h : Nat → α} {n : Nat} : pwF (pwF f g n) h n = pwF f h n := by
  funext j
  unfold pwF
  by_cases e : j < n <;> simp [e]
/-- not negative, at most N -/
def inN (x : Int32) (N : Nat) : Prop := 0 ≤ x.toInt ∧ x.toInt ≤ (N : Int)
theorem inN_nI {x : Int32} {N : Nat} (h : inN x N) (hN : N < 2 ^ 31) : ∃ a : Nat, a ≤ N ∧ x = nI a := by
  have h1 : ¬ x < 0 := fun hh => by
    rw [Int32.lt_iff_toInt_lt, Int32.toInt_zero] at hh
    have := h.1
    omega
  obtain ⟨j, hj, rfl⟩ := nI_of h1
  refine ⟨j, ?_, rfl⟩
  have h2 := h.2
  rw [nI_toInt hj] at h2
  omega
theorem nI_inN {a N : Nat} (h : a ≤ N) (hN : N < 2 ^ 31) : inN (nI a) N := by
  unfold inN
  rw [nI_toInt (by omega)]
  omega
theorem ou_miss {sw st fa am : Int32} (h1 : nI 1 ≤ st) (h2 : inN fa (2 ^ 29)) (h4 : inN am 1000) : ouF sw st fa am = 0 ↔ ¬ am ≤ sw := by
  obtain ⟨a, ha, rfl⟩ := inN_nI h2 (by decide)
  obtain ⟨m, hm, rfl⟩ := inN_nI h4 (by decide)
  have h1' : ¬ st < 0 := fun hh => by
    rw [Int32.lt_iff_toInt_lt, Int32.toInt_zero] at hh
    rw [Int32.le_iff_toInt_le, nI_toInt (by decide)] at h1
    omega
  obtain ⟨s, hs, rfl⟩ := nI_of h1'
  have hs1 : 1 ≤ s := (nI_leI (by decide) hs).mp h1
  have hle : a / s ≤ a := Nat.div_le_self a s
  unfold ouF trF
  rw [if_pos h1, pk_div (by omega) (by omega) hs, nI_add]
  generalize a / s = t at *
  have e2 : ¬ nI 2 = 0 := by decide
  have e1 : ¬ nI 1 = 0 := by decide
  by_cases c1 : sw < nI (m + t)
  · rw [if_pos c1]
    by_cases c2 : sw < nI m
    · rw [if_pos c2]
      exact ⟨fun _ => Int32.not_le.mpr c2, fun _ => nI_0⟩
    · rw [if_neg c2]
      exact ⟨fun h => absurd h e1, fun h => absurd (Int32.not_lt.mp c2) h⟩
  · rw [if_neg c1]
    refine ⟨fun h => absurd h e2, fun h => absurd ?_ h⟩
    have h3 := Int32.not_lt.mp c1
    rw [Int32.le_iff_toInt_le, nI_toInt (by omega)] at h3 ⊢
    omega
theorem sh_fa {x : Int32} {N : Nat} (h : inN x N) (hN : N + 2 < 2 ^ 31) (o : Int32) : inN (x + (if o = nI 2 then nI 1 else nI 2)) (N + 2) := by
  obtain ⟨a, ha, rfl⟩ := inN_nI h (by omega)
  split
  · rw [nI_add]; exact nI_inN (by omega) hN
  · rw [nI_add]; exact nI_inN (by omega) hN
theorem mx_fa {x : Int32} {N : Nat} (h : inN x N) (hN : N < 2 ^ 30) : inN (maxF (nI 0) (x - nI 3)) N := by
  obtain ⟨a, ha, rfl⟩ := inN_nI h (by omega)
  unfold maxF
  split
  · rename_i c
    rw [Int32.lt_iff_toInt_lt, nI_toInt (by decide), pk_sub_toInt (by omega) (by decide)] at c
    rw [pk_sub (by omega)]
    exact nI_inN (by omega) (by omega)
  · exact nI_inN (by omega) (by omega)
theorem tu_fa {sw st : Int32} {b r : Nat → Int32} {T g : Nat} {q : Int32 × Int32 × Int32 × Int32} {N : Nat} (h : inN q.2.2.2 N) (hN : N + 2 < 2 ^ 30) : inN (tuQ sw st b r T g q).2.2.2 (N + 2) := by
  have h1 : inN (shQ (ouF sw st q.2.2.2 (amF b r T g)) q).2.2.2 (N + 2) := sh_fa h (by omega) _
  show inN (if T % 5 = 4 then maxF (nI 0) ((shQ (ouF sw st q.2.2.2 (amF b r T g)) q).2.2.2 - nI 3) else (shQ (ouF sw st q.2.2.2 (amF b r T g)) q).2.2.2) (N + 2)
  split
  · exact mx_fa h1 hN
  · exact h1
theorem ru_fa {sw st : Int32} {b r : Nat → Int32} {T g : Nat} {q : Int32 × Int32 × Int32 × Int32} {N : Nat} (h : inN q.2.2.2 N) : ∀ i : Nat, N + 2 * i < 2 ^ 30 → inN (ruQ sw st b r T g q i).2.2.2 (N + 2 * i)
  | 0, _ => h
  | i + 1, hN => by
    have ih := ru_fa (sw := sw) (st := st) (b := b) (r := r) (T := T) (g := g) h i (by omega)
    exact tu_fa ih (by omega)
theorem tu_mi {sw st : Int32} {b r : Nat → Int32} {T g : Nat} {q : Int32 × Int32 × Int32 × Int32} (h1 : nI 1 ≤ st) (h2 : inN q.2.2.2 (2 ^ 29)) (h4 : inN (amF b r T g) 1000) : (tuQ sw st b r T g q).2.2.1 = q.2.2.1 + bN (decide (¬ amF b r T g ≤ sw)) := by
  show (if ouF sw st q.2.2.2 (amF b r T g) = 0 then q.2.2.1 + nI 1 else q.2.2.1) = _
  by_cases c : amF b r T g ≤ sw
  · rw [if_neg (fun h => (ou_miss h1 h2 h4).mp h c)]
    simp [c, bN, add0]
  · rw [if_pos ((ou_miss h1 h2 h4).mpr c)]
    simp [c, bN]
section UM
variable {sw st b r sc fi mi fa : Nat → Int32} {T g : Nat}
theorem um_0 (h1 : nI 1 ≤ st g) (h2 : inN (fa g) (2 ^ 28)) (h4 : ∀ t : Nat, inN (amF b r t g) 1000) : ∀ i : Nat, i ≤ 100 → (∀ j, j < i → miB sw b r T g j = false) → plM sw st b r sc fi mi fa T i g = mi g
  | 0, _, _ => rfl
  | i + 1, hi, hno => by
    have ih := um_0 h1 h2 h4 i (by omega) (fun j hj => hno j (by omega))
    show (tuQ (sw g) (st g) b r (T + i) g (ruQ (sw g) (st g) b r T g (sc g, fi g, mi g, fa g) i)).2.2.1 = mi g
    have hf : inN (ruQ (sw g) (st g) b r T g (sc g, fi g, mi g, fa g) i).2.2.2 (2 ^ 28 + 2 * i) := ru_fa h2 i (by omega)
    rw [tu_mi h1 ⟨hf.1, by have := hf.2; omega⟩ (h4 _)]
    have e : (ruQ (sw g) (st g) b r T g (sc g, fi g, mi g, fa g) i).2.2.1 = mi g := ih
    have e2 : decide (¬ amF b r (T + i) g ≤ sw g) = false := hno i (by omega)
    rw [e, e2]
    exact add0 _
theorem um_mi (h1 : nI 1 ≤ st g) (h2 : inN (fa g) (2 ^ 28)) (h4 : ∀ t : Nat, inN (amF b r t g) 1000) {i : Nat} (hi : i < 100) (hno : ∀ j, j < i → miB sw b r T g j = false) : plM sw st b r sc fi mi fa T (i + 1) g = mi g + bN (miB sw b r T g i) := by
  show (tuQ (sw g) (st g) b r (T + i) g (ruQ (sw g) (st g) b r T g (sc g, fi g, mi g, fa g) i)).2.2.1 = _
  have hf : inN (ruQ (sw g) (st g) b r T g (sc g, fi g, mi g, fa g) i).2.2.2 (2 ^ 28 + 2 * i) := ru_fa h2 i (by omega)
  rw [tu_mi h1 ⟨hf.1, by have := hf.2; omega⟩ (h4 _)]
  have e : (ruQ (sw g) (st g) b r T g (sc g, fi g, mi g, fa g) i).2.2.1 = mi g := um_0 h1 h2 h4 i (by omega) hno
  rw [e]
  rfl
end UM
theorem um_le (x : Int32) : x + bN false ≤ x := by
  show x + nI 0 ≤ x
  rw [add0]
  exact Int32.le_refl x
theorem um_lt {x : Int32} (h : inN x (2 ^ 30)) : ¬ x + bN true ≤ x := by
  obtain ⟨a, ha, rfl⟩ := inN_nI h (by decide)
  show ¬ nI a + nI 1 ≤ nI a
  rw [nI_add]
  exact nI_ge (by omega) (by omega)
def umS (p : Nat → Bool) (i : Nat) : Int32 := if fiN p i < i then nI (fiN p i + 1) else (-1)
theorem fiN_none {p : Nat → Bool} {i : Nat} (h : ¬ fiN p i < i) : ∀ j, j < i → p j = false := by
  intro j hj
  cases hp : p j
  · rfl
  · exact absurd (fiN_lt hj hp) h
theorem umS_no {p : Nat → Bool} {i : Nat} (h : ∀ j, j < i → p j = false) (hb : p i = false) : umS p (i + 1) = (-1) := by
  unfold umS
  rw [fiN_no (no_step h hb), if_neg (by omega)]
theorem umS_yes {p : Nat → Bool} {i : Nat} (h : ∀ j, j < i → p j = false) (hb : p i = true) : umS p (i + 1) = nI (i + 1) := by
  unfold umS
  rw [fiN_yes h hb (by omega), if_pos (by omega)]
theorem fiN_mono {p : Nat → Bool} {i : Nat} (h : fiN p i < i) : ∀ k : Nat, fiN p (i + k) = fiN p i
  | 0 => rfl
  | k + 1 => by
    show (if fiN p (i + k) < i + k then fiN p (i + k) else if p (i + k) = true then i + k else i + k + 1) = _
    rw [fiN_mono h k, if_pos (by omega)]
theorem umF_found {p : Nat → Bool} {i n : Nat} (h : fiN p i < i) (hi : i ≤ n) : umF p n = nI (fiN p i + 1) := by
  obtain ⟨k, rfl⟩ : ∃ k, n = i + k := ⟨n - i, by omega⟩
  unfold umF
  rw [fiN_mono h k, if_pos (by omega)]
theorem inN_mono {x : Int32} {N M : Nat} (h : inN x N) (hm : N ≤ M) : inN x M := ⟨h.1, by have := h.2; omega⟩
theorem ru_mi {sw st : Int32} {b r : Nat → Int32} {T g : Nat} {q : Int32 × Int32 × Int32 × Int32} {N : Nat} (h : inN q.2.2.1 N) : ∀ i : Nat, N + i < 2 ^ 30 → inN (ruQ sw st b r T g q i).2.2.1 (N + i)
  | 0, _ => h
  | i + 1, hN => by
    have ih := ru_mi (sw := sw) (st := st) (b := b) (r := r) (T := T) (g := g) h i (by omega)
    show inN (if ouF sw st (ruQ sw st b r T g q i).2.2.2 (amF b r (T + i) g) = 0 then (ruQ sw st b r T g q i).2.2.1 + nI 1 else (ruQ sw st b r T g q i).2.2.1) (N + (i + 1))
    split
    · obtain ⟨a, ha, e⟩ := inN_nI ih (by omega)
      rw [e, nI_add]
      exact nI_inN (by omega) (by omega)
    · exact inN_mono ih (by omega)
theorem up_fa {fa : Nat → Int32} {lf : Nat → Bool} {n N : Nat} (h : ∀ g, inN (fa g) N) (hN : N + 1 < 2 ^ 31) (g : Nat) : inN (pwF fa (upA fa lf) n g) (N + 1) := by
  unfold pwF upA
  split
  · split
    · obtain ⟨a, ha, e⟩ := inN_nI (h g) (by omega)
      rw [e, nI_add]
      exact nI_inN (by omega) hN
    · exact inN_mono (h g) (by omega)
  · exact inN_mono (h g) (by omega)
theorem so_fa {sw st : Nat → Int32} {n : Nat} : ∀ (m k : Nat) (lf : Nat → Bool) (fa : Nat → Int32) (N : Nat), N + m < 2 ^ 30 → (∀ g, inN (fa g) N) → ∀ g, inN ((soF sw st n m k lf fa).2 g) (N + m)
  | 0, k, lf, fa, N, hN, h, g => h g
  | m + 1, k, lf, fa, N, hN, h, g => by
    unfold soF
    split
    · exact inN_mono (h g) (by omega)
    · have := so_fa (sw := sw) (st := st) (n := n) m (k + 1) (soL sw st fa lf n (nI (6 * k))) (pwF fa (upA fa lf) n) (N + 1) (by omega) (up_fa h (by omega)) g
      exact inN_mono this (by omega)
theorem ang_r : ∀ a, a < 46 → ∀ c, c < 5 → -45 ≤ (nI a * (nI c - nI 2) / nI 2).toInt ∧ (nI a * (nI c - nI 2) / nI 2).toInt ≤ 45 := by decide +kernel
theorem am_in {b r : Nat → Int32} (hb : ∀ k, k < 5 → -45 ≤ (b k).toInt ∧ (b k).toInt ≤ 45) (hr : ∀ k, k < 5 → inN (r k) 45) (T g : Nat) : inN (amF b r T g) 1000 := by
  have hs : stF T g < 5 := Nat.mod_lt _ (by decide)
  have hc : T % 5 < 5 := Nat.mod_lt _ (by decide)
  unfold amF angF
  generalize stF T g = k at *
  generalize T % 5 = c at *
  obtain ⟨a, ha, e⟩ := inN_nI (hr k hs) (by decide)
  rw [e]
  have h1 := hb k hs
  have h2 := ang_r a (by omega) c hc
  generalize nI a * (nI c - nI 2) / nI 2 = y at *
  generalize b k = x at *
  have h3 : (x + y).toInt = x.toInt + y.toInt := Jvm.Kit.i32_add (by omega) (by omega)
  generalize x + y = z at *
  have hz : (0 : Int32).toInt = 0 := Int32.toInt_zero
  unfold absF
  split
  · rename_i c0
    rw [Int32.le_iff_toInt_le, hz] at c0
    exact ⟨c0, by omega⟩
  · rename_i c0
    rw [Int32.not_le, Int32.lt_iff_toInt_lt, hz] at c0
    have h4 : (0 - z).toInt = (0 : Int32).toInt - z.toInt := Jvm.Kit.i32_sub (by omega) (by omega)
    unfold inN
    rw [h4, hz]
    omega
