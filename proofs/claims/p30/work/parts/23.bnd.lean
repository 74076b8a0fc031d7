/-! what holds ahead of each act: bounds -/
/-- what holds ahead of the law's call j -/
def iv (j T n : Nat) (b r st fa mi : Nat → Int32) : Prop := n ≤ 6 ∧ T ≤ 50 * j ∧ (∀ g, g < n → nI 1 ≤ st g) ∧ (∀ g, inN (fa g) (100 * j)) ∧ (∀ g, inN (mi g) (50 * j)) ∧ (∀ k, k < 5 → -45 ≤ (b k).toInt ∧ (b k).toInt ≤ 45) ∧ (∀ k, k < 5 → inN (r k) 45)
section IV
variable {j T n : Nat} {b r sw st sc fi fa mi : Nat → Int32}
theorem iv_same (h : iv j T n b r st fa mi) : iv (j + 1) T n b r st fa mi :=
  ⟨h.1, by have := h.2.1; omega, h.2.2.1, fun g => inN_mono (h.2.2.2.1 g) (by omega), fun g => inN_mono (h.2.2.2.2.1 g) (by omega), h.2.2.2.2.2.1, h.2.2.2.2.2.2⟩
theorem iv_add {y : Int32} (h : iv j T n b r st fa mi) (hn : n < 6) (hy : ¬ y < nI 1) : iv (j + 1) T (n + 1) b r (upd st n y) fa mi := by
  obtain ⟨h1, h2, h3, h4⟩ := iv_same h
  refine ⟨by omega, h2, fun g hg => ?_, h4⟩
  by_cases e : g = n
  · subst e
    rw [pk_us]
    exact Int32.not_lt.mp hy
  · rw [upd_ne e]
    exact h3 g (by omega)
theorem iv_trap {x y : Int32} {s0 : Nat} (h : iv j T n b r st fa mi) (hx1 : ¬ x < (-45)) (hx2 : x ≤ nI 45) (hy1 : ¬ y < 0) (hy2 : y ≤ nI 45) : iv (j + 1) T n (upd b s0 x) (upd r s0 y) st fa mi := by
  obtain ⟨h1, h2, h3, h4, h5, h6, h7⟩ := iv_same h
  refine ⟨h1, h2, h3, h4, h5, fun k hk => ?_, fun k hk => ?_⟩
  · by_cases e : k = s0
    · subst e
      rw [pk_us]
      rw [Int32.not_lt, Int32.le_iff_toInt_le] at hx1
      rw [Int32.le_iff_toInt_le, nI_toInt (by decide)] at hx2
      have e0 : ((-45 : Int32)).toInt = -45 := by decide
      omega
    · rw [upd_ne e]
      exact h6 k hk
  · by_cases e : k = s0
    · subst e
      rw [pk_us]
      obtain ⟨a, ha, rfl⟩ := nI_of2 (n := 45) (nI_toInt (by decide)) hy1 hy2
      exact nI_inN ha (by decide)
    · rw [upd_ne e]
      exact h7 k hk
theorem iv_rest {g0 : Nat} (h : iv j T n b r st fa mi) : iv (j + 1) T n b r st (upd fa g0 (nI 0)) mi := by
  obtain ⟨h1, h2, h3, h4, h5⟩ := iv_same h
  refine ⟨h1, h2, h3, fun g => ?_, h5⟩
  by_cases e : g = g0
  · subst e
    rw [pk_us]
    exact ⟨by decide, by rw [nI_toInt (by decide)]; omega⟩
  · rw [upd_ne e]
    exact h4 g
theorem iv_pass {k : Nat} (h : iv j T n b r st fa mi) (hj : j ≤ 512) (hk : k ≤ 50) : iv (j + 1) (T + k) n b r st (pwF fa (plA sw st b r sc fi mi fa T k) n) (pwF mi (plM sw st b r sc fi mi fa T k) n) := by
  obtain ⟨h1, h2, h3, h4, h5, h6⟩ := h
  refine ⟨h1, by omega, h3, fun g => ?_, fun g => ?_, h6⟩
  · unfold pwF
    split
    · exact inN_mono (ru_fa (q := (sc g, fi g, mi g, fa g)) (h4 g) k (by omega)) (by omega)
    · exact inN_mono (h4 g) (by omega)
  · unfold pwF
    split
    · exact inN_mono (ru_mi (q := (sc g, fi g, mi g, fa g)) (h5 g) k (by omega)) (by omega)
    · exact inN_mono (h5 g) (by omega)
theorem iv_shoot (h : iv j T n b r st fa mi) (hj : j ≤ 512) : iv (j + 1) T n b r st (waF sw st sc fa n) mi := by
  obtain ⟨h1, h2, h3, h4, h5⟩ := iv_same h
  exact ⟨h1, h2, h3, fun g => inN_mono (so_fa 9 1 _ fa _ (by omega) h.2.2.2.1 g) (by omega), h5⟩
end IV

/-- scores and firsts; what is not there yet -/
def scI (K : Nat) (sc fi : Nat → Int32) : Prop := ∀ g, ∃ s f : Nat, sc g = nI s ∧ fi g = nI f ∧ 2 * f ≤ s ∧ s ≤ 101 * K
def zer (n : Nat) (fa sc fi mi : Nat → Int32) : Prop := ∀ g, n ≤ g → fa g = nI 0 ∧ sc g = nI 0 ∧ fi g = nI 0 ∧ mi g = nI 0
def IV (K T n : Nat) (b r sw st fa sc fi mi : Nat → Int32) : Prop := iv K T n b r st fa mi ∧ scI K sc fi ∧ zer n fa sc fi mi
theorem scI_same {K : Nat} {sc fi : Nat → Int32} (h : scI K sc fi) : scI (K + 1) sc fi := fun g => by
  obtain ⟨s, f, h1, h2, h3, h4⟩ := h g
  exact ⟨s, f, h1, h2, h3, by omega⟩
theorem ou_or (sw st fa am : Int32) : ouF sw st fa am = nI 0 ∨ ouF sw st fa am = nI 1 ∨ ouF sw st fa am = nI 2 := by
  unfold ouF
  split
  · split
    · exact Or.inl rfl
    · exact Or.inr (Or.inl rfl)
  · exact Or.inr (Or.inr rfl)
theorem ru_sc {sw st : Int32} {b r : Nat → Int32} {T g : Nat} {q : Int32 × Int32 × Int32 × Int32} {s f : Nat} (h1 : q.1 = nI s) (h2 : q.2.1 = nI f) (h3 : 2 * f ≤ s) : ∀ k : Nat, ∃ s' f' : Nat, (ruQ sw st b r T g q k).1 = nI s' ∧ (ruQ sw st b r T g q k).2.1 = nI f' ∧ 2 * f' ≤ s' ∧ s' ≤ s + 2 * k
  | 0 => ⟨s, f, h1, h2, h3, by omega⟩
  | k + 1 => by
    obtain ⟨s', f', g1, g2, g3, g4⟩ := ru_sc (sw := sw) (st := st) (b := b) (r := r) (T := T) (g := g) h1 h2 h3 k
    generalize hq : ruQ sw st b r T g q k = p at *
    have e1 : (ruQ sw st b r T g q (k + 1)).1 = p.1 + ouF sw st p.2.2.2 (amF b r (T + k) g) := by show (tuQ sw st b r (T + k) g (ruQ sw st b r T g q k)).1 = _; rw [hq]; rfl
    have e2 : (ruQ sw st b r T g q (k + 1)).2.1 = if ouF sw st p.2.2.2 (amF b r (T + k) g) = nI 2 then p.2.1 + nI 1 else p.2.1 := by show (tuQ sw st b r (T + k) g (ruQ sw st b r T g q k)).2.1 = _; rw [hq]; rfl
    rw [e1, e2, g1, g2]
    rcases ou_or sw st p.2.2.2 (amF b r (T + k) g) with c | c | c <;> rw [c]
    · exact ⟨s', f', by rw [nI_add]; rfl, if_neg (by decide), g3, by omega⟩
    · exact ⟨s' + 1, f', nI_add _ _, if_neg (by decide), by omega, by omega⟩
    · exact ⟨s' + 2, f' + 1, nI_add _ _, by rw [if_pos rfl, nI_add], by omega, by omega⟩
theorem so_out {sw st : Nat → Int32} {n g : Nat} (hg : n ≤ g) : ∀ (m k : Nat) (lf : Nat → Bool) (fa : Nat → Int32), (soF sw st n m k lf fa).2 g = fa g
  | 0, _, _, _ => rfl
  | m + 1, k, lf, fa => by
    unfold soF
    split
    · rfl
    · rw [so_out hg m (k + 1) _ _, pwF_at hg]
section IVS
variable {K T n : Nat} {b r sw st sc fi fa mi : Nat → Int32}
theorem IV_same (h : IV K T n b r sw st fa sc fi mi) : IV (K + 1) T n b r sw st fa sc fi mi := ⟨iv_same h.1, scI_same h.2.1, h.2.2⟩
theorem IV_add {x y : Int32} (h : IV K T n b r sw st fa sc fi mi) (hn : n < 6) (hy : ¬ y < nI 1) : IV (K + 1) T (n + 1) b r (upd sw n x) (upd st n y) fa sc fi mi := ⟨iv_add h.1 hn hy, scI_same h.2.1, fun g hg => h.2.2 g (by omega)⟩
theorem IV_trap {x y : Int32} {s0 : Nat} (h : IV K T n b r sw st fa sc fi mi) (hx1 : ¬ x < (-45)) (hx2 : x ≤ nI 45) (hy1 : ¬ y < 0) (hy2 : y ≤ nI 45) : IV (K + 1) T n (upd b s0 x) (upd r s0 y) sw st fa sc fi mi := ⟨iv_trap h.1 hx1 hx2 hy1 hy2, scI_same h.2.1, h.2.2⟩
theorem IV_rest {g0 : Nat} (h : IV K T n b r sw st fa sc fi mi) : IV (K + 1) T n b r sw st (upd fa g0 (nI 0)) sc fi mi := ⟨iv_rest h.1, scI_same h.2.1, fun g hg => ⟨by
  by_cases e : g = g0
  · subst e; exact pk_us
  · rw [upd_ne e]; exact (h.2.2 g hg).1, (h.2.2 g hg).2⟩⟩
theorem IV_pass {k : Nat} (h : IV K T n b r sw st fa sc fi mi) (hj : K ≤ 512) (hk : k ≤ 50) : IV (K + 1) (T + k) n b r sw st (pwF fa (plA sw st b r sc fi mi fa T k) n) (pwF sc (plS sw st b r sc fi mi fa T k) n) (pwF fi (plF sw st b r sc fi mi fa T k) n) (pwF mi (plM sw st b r sc fi mi fa T k) n) := by
  refine ⟨iv_pass h.1 hj hk, fun g => ?_, fun g hg => ?_⟩
  · obtain ⟨s, f, h1, h2, h3, h4⟩ := h.2.1 g
    by_cases hg : g < n
    · rw [pwF_lt hg, pwF_lt hg]
      obtain ⟨s', f', g1, g2, g3, g4⟩ := ru_sc (sw := sw g) (st := st g) (b := b) (r := r) (T := T) (g := g) (q := (sc g, fi g, mi g, fa g)) h1 h2 h3 k
      exact ⟨s', f', g1, g2, g3, by omega⟩
    · rw [pwF_at (by omega), pwF_at (by omega)]
      exact ⟨s, f, h1, h2, h3, by omega⟩
  · rw [pwF_at hg, pwF_at hg, pwF_at hg, pwF_at hg]
    exact h.2.2 g hg
theorem IV_shoot (h : IV K T n b r sw st fa sc fi mi) (hj : K ≤ 512) (hn : 0 < n) : IV (K + 1) T n b r sw st (waF sw st sc fa n) (upd sc (wnF sw st sc fa n) (sc (wnF sw st sc fa n) + nI 1)) fi mi := by
  have hw := wnF_lt (sw := sw) (st := st) (sc := sc) (fa := fa) hn
  generalize wnF sw st sc fa n = w at *
  refine ⟨iv_shoot h.1 hj, fun g => ?_, fun g hg => ?_⟩
  · obtain ⟨s, f, h1, h2, h3, h4⟩ := h.2.1 g
    by_cases e : g = w
    · subst e
      rw [pk_us, h1, nI_add]
      exact ⟨s + 1, f, rfl, h2, by omega, by omega⟩
    · rw [upd_ne e]
      exact ⟨s, f, h1, h2, h3, by omega⟩
  · rw [upd_ne (by omega)]
    exact ⟨(so_out hg 9 1 _ _).trans (h.2.2 g hg).1, (h.2.2 g hg).2⟩
/-- a pass by hand counts the same misses -/
theorem smF_ct {f : Nat → Int32} {p : Nat → Bool} : ∀ n : Nat, smF (fun zj => f zj + bN (p zj)) n = smF f n + nI (ctF p n)
  | 0 => by
    show nI 0 = nI 0 + nI 0
    decide
  | n + 1 => by
    rw [smF, smF, smF_ct n, ctF, ← nI_add]
    have e : bN (p n) = nI (if p n = true then 1 else 0) := by unfold bN; split <;> rfl
    rw [e]
    ac_rfl
theorem ms_one (g : Nat) (hg : g < n) (k : Nat) : plM sw st b r sc fi mi fa T (k + 1) g - mi g = (plM sw st b r sc fi mi fa T k g - mi g) + bN (msB sw st b r (pwF fa (plA sw st b r sc fi mi fa T k) n) (T + k) g) := by
  have e : plM sw st b r sc fi mi fa T (k + 1) g = if ouF (sw g) (st g) (plA sw st b r sc fi mi fa T k g) (amF b r (T + k) g) = 0 then plM sw st b r sc fi mi fa T k g + nI 1 else plM sw st b r sc fi mi fa T k g := rfl
  rw [e]
  unfold msB
  rw [pwF_lt hg]
  by_cases c : ouF (sw g) (st g) (plA sw st b r sc fi mi fa T k g) (amF b r (T + k) g) = 0
  · rw [if_pos c]
    simp only [c, bN, decide_true, if_true]
    rw [Int32.sub_eq_add_neg, Int32.sub_eq_add_neg]
    ac_rfl
  · rw [if_neg c]
    simp only [c, bN, decide_false]
    rw [if_neg (by decide), add0]
theorem ms_sum : ∀ k : Nat, smF (fun zj => plM sw st b r sc fi mi fa T k zj - mi zj) n = nI (msN sw st b r sc fi mi fa T n k)
  | 0 => by
    rw [smF_cong (g := fun _ => nI 0) (fun j _ => by
      show mi j - mi j = nI 0
      rw [Int32.sub_self, nI_0])]
    show smF (fun _ => nI 0) n = nI 0
    induction n with
    | zero => rfl
    | succ n ih => rw [smF, ih]; decide
  | k + 1 => by
    rw [smF_cong (g := fun zj => (plM sw st b r sc fi mi fa T k zj - mi zj) + bN (msB sw st b r (pwF fa (plA sw st b r sc fi mi fa T k) n) (T + k) zj)) (fun j hj => ms_one j hj k), smF_ct, ms_sum k, nI_add]
    rfl
end IVS
theorem upd_z {f : Nat → Int32} {k : Nat} {x : Int32} (h : f k = x) : upd f k x = f := by
  rw [← h]
  exact upd_id
theorem tr_lo {k : Nat} (h : k < 91) : ¬ nI k - nI 45 < (-45) := by
  rw [Int32.lt_iff_toInt_lt, pk_sub_toInt (by omega) (by decide)]
  have e : ((-45 : Int32)).toInt = -45 := by decide
  omega
theorem tr_hi {k : Nat} (h : k < 91) : nI k - nI 45 ≤ nI 45 := by
  rw [Int32.le_iff_toInt_le, pk_sub_toInt (by omega) (by decide), nI_toInt (by decide)]
  omega
theorem and_pos (x : Int32) : ∃ k : Nat, k < 2 ^ 31 ∧ x &&& (2147483647 : Int32) = nI k := by
  have h9 : (x.toBitVec &&& 2147483647#32).toNat ≤ 2147483647 := by
    rw [BitVec.toNat_and]
    exact Nat.and_le_right
  have h : (x &&& (2147483647 : Int32)).toInt = ((x.toBitVec &&& 2147483647#32).toNat : Int) := by
    rw [show (x &&& (2147483647 : Int32)).toInt = (x.toBitVec &&& 2147483647#32).toInt from rfl, BitVec.toInt_eq_toNat_cond]
    rw [if_pos (by omega)]
  refine ⟨(x.toBitVec &&& 2147483647#32).toNat, by omega, ?_⟩
  apply Int32.toInt_inj.mp
  rw [h, nI_toInt (by omega)]
/-- the traps' row of one stand is another one: the old row is left over -/
theorem set_perm {α : Type} (x : α) : ∀ (l : List α) (g : Nat) (y : α), l[g]? = some y → (l ++ [x]).Perm (l.set g x ++ [y])
  | [], _, _, h => by simp at h
  | a :: l, 0, y, h => by
    cases h
    rw [List.set_cons_zero]
    exact (List.perm_append_comm (l₁ := a :: l) (l₂ := [x])).trans ((List.Perm.cons x (List.perm_append_comm (l₁ := [a]) (l₂ := l))))
  | a :: l, g + 1, y, h => by
    rw [List.set_cons_succ]
    exact List.Perm.cons a (set_perm x l g y (by simpa using h))
theorem trap_row {X : va_W} {ra : Nat → Nat} {cI : ClassId} {b r : Nat → Int32} {g q : Nat} {x y : Int32} (hg : g < 5) : ((X ++ wR ra cI b r) ++ wI q cI 2 (upd (upd (fun _ => nI 0) 0 x) 1 y)).Perm ((X ++ wR (updA ra g q) cI (upd b g x) (upd r g y)) ++ [(ra g, .inl (cI, 2, .inl (tR b r g)))]) := by
  rw [List.append_assoc, List.append_assoc]
  refine List.Perm.append_left X ?_
  have h1 : (wP ra cI 2 (tR b r) 5)[g]? = some (ra g, .inl (cI, 2, .inl (tR b r g))) := wP_get hg
  have h2 := set_perm (q, (.inl (cI, 2, .inl (upd (upd (fun _ => nI 0) 0 x) 1 y)) : va_E)) _ g _ h1
  have h3 : (wP ra cI 2 (tR b r) 5).set g (q, .inl (cI, 2, .inl (upd (upd (fun _ => nI 0) 0 x) 1 y))) = wP (updA ra g q) cI 2 (tR (upd b g x) (upd r g y)) 5 := by
    apply List.ext_getElem?
    intro i
    by_cases hi : i < 5
    · rw [wP_get hi]
      by_cases e : i = g
      · subst e
        rw [List.getElem?_set_self (by rw [wP_len]; exact hi)]
        have e1 : (upd (upd (fun _ => nI 0) 0 x) 1 y : Nat → Int32) = tR (upd b i x) (upd r i y) i := by
          funext k
          match k with
          | 0 => simp [tR, upd]
          | 1 => simp [tR, upd]
          | k + 2 => simp [tR, upd]
        rw [e1]
        simp [updA]
      · rw [List.getElem?_set_ne (Ne.symm e), wP_get hi]
        have e1 : tR b r i = tR (upd b g x) (upd r g y) i := by
          funext k
          match k with
          | 0 => simp [tR, upd, e]
          | 1 => simp [tR, upd, e]
          | k + 2 => simp [tR]
        rw [e1]
        simp [updA, e]
    · rw [List.getElem?_eq_none (by rw [List.length_set, wP_len]; omega), List.getElem?_eq_none (by rw [wP_len]; omega)]
  rw [h3] at h2
  exact h2
/-- a state, as one value -/
abbrev Sg : Type := (Nat → Nat) × (Nat → Nat → Int32) × (Nat → Nat → Bool) × (Nat → Nat → Nat)
abbrev mkG (T n n2 tr go : Nat) (b r sw st fa sc fi mi sw2 st2 fa2 sc2 fi2 mi2 : Nat → Int32) (lf hi lf2 hi2 : Nat → Bool) (ra ga : Nat → Nat) : Sg := (fun k => match k with
  | 0 => T
  | 1 => n
  | 2 => n2
  | 3 => tr
  | _ => go, fun k => match k with
  | 0 => b
  | 1 => r
  | 2 => sw
  | 3 => st
  | 4 => fa
  | 5 => sc
  | 6 => fi
  | 7 => mi
  | 8 => sw2
  | 9 => st2
  | 10 => fa2
  | 11 => sc2
  | 12 => fi2
  | _ => mi2, fun k => match k with
  | 0 => lf
  | 1 => hi
  | 2 => lf2
  | _ => hi2, fun k => match k with
  | 0 => ra
  | _ => ga)
def IVu (K : Nat) (u : Sg) : Prop := IV K (u.1 0) (u.1 1) (u.2.1 0) (u.2.1 1) (u.2.1 2) (u.2.1 3) (u.2.1 4) (u.2.1 5) (u.2.1 6) (u.2.1 7)
theorem IV_mono {K K' T n : Nat} {b r sw st fa sc fi mi : Nat → Int32} (h : IV K T n b r sw st fa sc fi mi) (hk : K ≤ K') : IV K' T n b r sw st fa sc fi mi := by
  obtain ⟨d, rfl⟩ : ∃ d, K' = K + d := ⟨K' - K, by omega⟩
  induction d with
  | zero => exact h
  | succ d ih => exact IV_same (ih (by omega))
theorem IV_0 : IV 0 0 0 z0 sp0 z0 z0 z0 z0 z0 z0 := by
  have e0 : inN (nI 0) 0 := ⟨by decide, by decide⟩
  have e1 : -45 ≤ (nI 0).toInt ∧ (nI 0).toInt ≤ 45 := by decide
  refine ⟨⟨by omega, by omega, fun g hg => absurd hg (Nat.not_lt_zero g), fun g => e0, fun g => e0, fun k hk => e1, fun k hk => ?_⟩, fun g => ⟨0, 0, rfl, rfl, by omega, by omega⟩, fun g hg => ⟨rfl, rfl, rfl, rfl⟩⟩
  match k, hk with
  | 0, _ => exact ⟨by decide, by decide⟩
  | 1, _ => exact ⟨by decide, by decide⟩
  | 2, _ => exact ⟨by decide, by decide⟩
  | 3, _ => exact ⟨by decide, by decide⟩
  | 4, _ => exact ⟨by decide, by decide⟩
