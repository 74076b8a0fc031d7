/-! the law's own simulation: what its methods compute -/
abbrev wFm (a : Nat) (cJ : ClassId) (n m : Nat) (ad : Nat → Nat) : va_W := [(a, .inl (cJ, n, .inr (.inr (.inr (.inr (rfF ad m))))))]
theorem ang_s1 : ∀ a, a < 46 → ∀ c, c < 5 → nI a * (nI c - nI 2) / nI 2 = -(nI a * (nI 2 - nI c) / nI 2) := by decide +kernel
theorem ang_lo {b r : Nat → Int32} {s c : Nat} (hr : inN (r s) 45) (hc : c < 5) : b s - r s * (nI 2 - nI c) / nI 2 = angF b r s c := by
  obtain ⟨a, ha, e⟩ := inN_nI hr (by decide)
  unfold angF
  rw [e, ang_s1 a (by omega) c hc, Int32.sub_eq_add_neg]
theorem abs_neg {x : Int32} (h : ¬ 0 ≤ x) : -x = absF x := by
  unfold absF
  rw [if_neg h, Int32.zero_sub]
theorem abs_pos {x : Int32} (h : 0 ≤ x) : x = absF x := by
  unfold absF
  rw [if_pos h]
theorem two_ne : ¬ nI 2 = (0 : Int32) := by decide
theorem z_ne2 : ¬ (0 : Int32) = nI 2 := by decide
/-- who misses in a turn; how many do in k turns -/
def msB (sw st b r fa : Nat → Int32) (T : Nat) : Nat → Bool := fun g => decide (ouF (sw g) (st g) (fa g) (amF b r T g) = 0)
def msN (sw st b r sc fi mi fa : Nat → Int32) (T n : Nat) : Nat → Nat
  | 0 => 0
  | k + 1 => msN sw st b r sc fi mi fa T n k + ctF (msB sw st b r (pwF fa (plA sw st b r sc fi mi fa T k) n) (T + k)) n
theorem wk_lt {x : Int32} {N : Nat} (h : inN x N) (hN : N < 2 ^ 30) (c : x < nI 3) : nI 0 = maxF (nI 0) (x - nI 3) := by
  obtain ⟨a, ha, rfl⟩ := inN_nI h (by omega)
  rw [nI_ltI (by omega) (by omega)] at c
  unfold maxF
  rw [if_neg]
  rw [Int32.lt_iff_toInt_lt, nI_toInt (by decide), pk_sub_toInt (by omega) (by decide)]
  omega
theorem wk_ge {x : Int32} {N : Nat} (h : inN x N) (hN : N < 2 ^ 30) (c : nI 3 ≤ x) : x - nI 3 = maxF (nI 0) (x - nI 3) := by
  obtain ⟨a, ha, rfl⟩ := inN_nI h (by omega)
  rw [nI_leI (by omega) (by omega)] at c
  unfold maxF
  by_cases e : a = 3
  · subst e
    decide
  · rw [if_pos]
    rw [Int32.lt_iff_toInt_lt, nI_toInt (by decide), pk_sub_toInt (by omega) (by decide)]
    omega
theorem sh_in {sw st b r sc fi mi fa : Nat → Int32} {T g N : Nat} (h : inN (fa g) N) (hN : N + 2 < 2 ^ 31) : inN (shA sw st b r sc fi mi fa T g) (N + 2) := sh_fa (x := fa g) h hN _
section P1
variable {sw st b r sc fi mi fa : Nat → Int32} {T g N : Nat}
theorem p1_lt (h : inN (fa g) N) (hN : N + 2 < 2 ^ 30) (hT : T % 5 = 4) (c : shA sw st b r sc fi mi fa T g < nI 3) : nI 0 = plA sw st b r sc fi mi fa T 1 g := by
  rw [pl1_A hT]
  exact wk_lt (sh_in h (by omega)) hN c
theorem p1_ge (h : inN (fa g) N) (hN : N + 2 < 2 ^ 30) (hT : T % 5 = 4) (c : nI 3 ≤ shA sw st b r sc fi mi fa T g) : shA sw st b r sc fi mi fa T g - nI 3 = plA sw st b r sc fi mi fa T 1 g := by
  rw [pl1_A hT]
  exact wk_ge (sh_in h (by omega)) hN c
end P1
theorem pl_in {sw st b r sc fi mi fa : Nat → Int32} {T k n N : Nat} (h : ∀ g, inN (fa g) N) (hN : N + 2 * k < 2 ^ 30) (g : Nat) : inN (pwF fa (plA sw st b r sc fi mi fa T k) n g) (N + 2 * k) := by
  unfold pwF
  split
  · exact ru_fa (q := (sc g, fi g, mi g, fa g)) (h g) k hN
  · exact inN_mono (h g) (by omega)
/-- the leader, looked for from the last gun down -/
def lbN (sc : Nat → Int32) (n : Nat) : Nat → Nat
  | 0 => n
  | i + 1 => if i = 0 ∨ sc (lbN sc n i) ≤ sc (n - 1 - i) then n - 1 - i else lbN sc n i
def lbI (sc : Nat → Int32) (n i : Nat) : Int32 := if i = 0 then (-1) else nI (lbN sc n i)
theorem leF_max (sc : Nat → Int32) : ∀ k, (∀ j, j ≤ k → sc j ≤ sc (leF sc k)) ∧ (∀ j, j < leF sc k → ¬ sc (leF sc k) ≤ sc j)
  | 0 => ⟨fun j hj => by rw [Nat.le_zero.mp hj]; exact Int32.le_refl _, fun j hj => absurd hj (Nat.not_lt_zero _)⟩
  | k + 1 => by
    obtain ⟨h1, h2⟩ := leF_max sc k
    have hl := leF_le sc k
    unfold leF
    by_cases c : sc (k + 1) ≤ sc (leF sc k)
    · rw [if_pos c]
      refine ⟨fun j hj => ?_, h2⟩
      by_cases e : j = k + 1
      · rw [e]; exact c
      · exact h1 j (by omega)
    · rw [if_neg c]
      refine ⟨fun j hj => ?_, fun j hj hle => c (Int32.le_trans hle (h1 j (by omega)))⟩
      by_cases e : j = k + 1
      · rw [e]; exact Int32.le_refl _
      · exact Int32.le_trans (h1 j (by omega)) (Int32.le_of_lt (Int32.not_le.mp c))
theorem lbN_max (sc : Nat → Int32) (n : Nat) : ∀ i, 0 < i → i ≤ n → (n - i ≤ lbN sc n i ∧ lbN sc n i < n) ∧ (∀ j, n - i ≤ j → j < n → sc j ≤ sc (lbN sc n i)) ∧ (∀ j, n - i ≤ j → j < lbN sc n i → ¬ sc (lbN sc n i) ≤ sc j)
  | 0, h, _ => absurd h (Nat.lt_irrefl 0)
  | i + 1, _, hn => by
    by_cases e0 : i = 0
    · subst e0
      have e : lbN sc n 1 = n - 1 := by simp [lbN]
      rw [e]
      refine ⟨⟨by omega, by omega⟩, fun j h1 h2 => ?_, fun j h1 h2 => by omega⟩
      rw [show j = n - 1 by omega]
      exact Int32.le_refl _
    · obtain ⟨⟨h1, h2⟩, h3, h4⟩ := lbN_max sc n i (by omega) (by omega)
      by_cases c : sc (lbN sc n i) ≤ sc (n - 1 - i)
      · have e : lbN sc n (i + 1) = n - 1 - i := by simp [lbN, c]
        rw [e]
        refine ⟨⟨by omega, by omega⟩, fun j g1 g2 => ?_, fun j g1 g2 => by omega⟩
        by_cases ej : j = n - 1 - i
        · rw [ej]; exact Int32.le_refl _
        · exact Int32.le_trans (h3 j (by omega) g2) c
      · have e : lbN sc n (i + 1) = lbN sc n i := by simp [lbN, c, e0]
        rw [e]
        refine ⟨⟨by omega, h2⟩, fun j g1 g2 => ?_, fun j g1 g2 => ?_⟩
        · by_cases ej : j = n - 1 - i
          · rw [ej]; exact Int32.le_of_lt (Int32.not_le.mp c)
          · exact h3 j (by omega) g2
        · by_cases ej : j = n - 1 - i
          · rw [ej]; exact c
          · exact h4 j (by omega) g2
theorem lbN_le (sc : Nat → Int32) {n : Nat} (hn : 0 < n) : lbN sc n n = leF sc (n - 1) := by
  obtain ⟨⟨h1, h2⟩, h3, h4⟩ := lbN_max sc n n hn (Nat.le_refl _)
  obtain ⟨g1, g2⟩ := leF_max sc (n - 1)
  have hl := leF_le sc (n - 1)
  rcases Nat.lt_trichotomy (lbN sc n n) (leF sc (n - 1)) with c | c | c
  · exact absurd (h3 _ (by omega) (by omega)) (g2 _ c)
  · exact c
  · exact absurd (g1 _ (by omega)) (h4 _ (by omega) c)
theorem lbI_n (sc : Nat → Int32) (n : Nat) : lbI sc n n = ldF sc n := by
  unfold lbI ldF
  by_cases h : n = 0
  · rw [if_pos h, if_pos h]
  · rw [if_neg h, if_neg h, lbN_le sc (by omega)]
theorem lb_0 {sc : Nat → Int32} {n i : Nat} (h : i = 0) : lbI sc n i = (-1) := if_pos h
theorem lb_p {sc : Nat → Int32} {n i : Nat} (h : 0 < i) : lbI sc n i = nI (lbN sc n i) := if_neg (by omega)
theorem lb_1 {sc : Nat → Int32} {n i : Nat} (h : i = 0) : lbI sc n (i + 1) = nI (n - 1 - i) := by
  subst h
  simp [lbI, lbN]
theorem lb_take {sc : Nat → Int32} {n i : Nat} (c : sc (lbN sc n i) ≤ sc (n - 1 - i)) : lbI sc n (i + 1) = nI (n - 1 - i) := by simp [lbI, lbN, c]
theorem lb_keep {sc : Nat → Int32} {n i : Nat} (h : 0 < i) (c : ¬ sc (lbN sc n i) ≤ sc (n - 1 - i)) : lbI sc n (i + 1) = nI (lbN sc n i) := by simp [lbI, lbN, c, show ¬ i = 0 by omega]
theorem dn_at {n i : Nat} (h : i < n) : nI (n - i) - nI 1 = nI (n - 1 - i) := by
  rw [pk_sub (by omega), show n - i - 1 = n - 1 - i by omega]
theorem dn_end {n : Nat} : nI (n - n) - nI 1 = (-1) := by
  rw [Nat.sub_self]
  decide
theorem dn_next {n i : Nat} (h : i < n) : nI (n - 1 - i) + (-1) = nI (n - (i + 1)) - nI 1 := by
  rw [show n - (i + 1) = n - 1 - i by omega, Int32.sub_eq_add_neg]
  rfl
/-- a shoot-off of the simulation: what holds ahead of the round i -/
def soE (sw st sc fa : Nat → Int32) (n i : Nat) (lf : Nat → Bool) (fa1 : Nat → Int32) : Prop := (∀ g, g < n → (soF sw st n (10 - i) i lf fa1).1 g = (soF sw st n 9 1 (beB sc n) fa).1 g) ∧ (soF sw st n (10 - i) i lf fa1).2 = waF sw st sc fa n
theorem so_b0 {sw st sc fa : Nat → Int32} {n : Nat} {lf : Nat → Bool} (h : ∀ g, g < n → lf g = beB sc n g) : soE sw st sc fa n 1 lf fa := soF_cong 9 1 lf (beB sc n) fa h
theorem so_x10 {sw st sc fa fa1 : Nat → Int32} {n : Nat} {lf : Nat → Bool} (h : soE sw st sc fa n 10 lf fa1) : (∀ g, g < n → lf g = (soF sw st n 9 1 (beB sc n) fa).1 g) ∧ fa1 = waF sw st sc fa n := h
theorem so_x1 {sw st sc fa fa1 : Nat → Int32} {n i : Nat} {lf : Nat → Bool} (hi : i < 10) (h : soE sw st sc fa n i lf fa1) (c : ctF lf n ≤ 1) : (∀ g, g < n → lf g = (soF sw st n 9 1 (beB sc n) fa).1 g) ∧ fa1 = waF sw st sc fa n := by
  have e := so_stop hi (rfl : soF sw st n (10 - i) i lf fa1 = _) c
  unfold soE at h
  rw [e] at h
  exact h
theorem ct_an {h : Nat → Bool} : ∀ {n : Nat}, ctF h n = 0 → anB h n = false
  | 0, _ => rfl
  | n + 1, e => by
    unfold ctF at e
    unfold anB
    have e1 : ctF h n = 0 := by omega
    rw [ct_an e1]
    cases hh : h n
    · rfl
    · rw [hh] at e; simp at e
theorem an_ct {h : Nat → Bool} : ∀ {n : Nat}, ¬ ctF h n = 0 → anB h n = true
  | 0, e => absurd rfl e
  | n + 1, e => by
    unfold ctF at e
    unfold anB
    cases hh : h n
    · rw [hh] at e
      simp at e
      rw [an_ct e]
      rfl
    · simp
theorem so_n0 {sw st sc fa fa1 : Nat → Int32} {n i : Nat} {lf : Nat → Bool} (hi : i < 10) (h : soE sw st sc fa n i lf fa1) (c : 1 < ctF lf n) (z : ctF (htB sw st fa1 lf (nI (6 * i))) n = 0) : soE sw st sc fa n (i + 1) lf (pwF fa1 (upA fa1 lf) n) := by
  have e := so_go hi (rfl : soF sw st n (10 - i) i lf fa1 = _) c
  have e2 : soL sw st fa1 lf n (nI (6 * i)) = lf := by
    unfold soL
    rw [ct_an z]
    rfl
  rw [e2] at e
  unfold soE at h ⊢
  rw [e]
  exact h
theorem so_n1 {sw st sc fa fa1 : Nat → Int32} {n i : Nat} {lf lf0 : Nat → Bool} (hi : i < 10) (h : soE sw st sc fa n i lf fa1) (c : 1 < ctF lf n) (z : ¬ ctF (htB sw st fa1 lf (nI (6 * i))) n = 0) : soE sw st sc fa n (i + 1) (pwF lf0 (htB sw st fa1 lf (nI (6 * i))) n) (pwF fa1 (upA fa1 lf) n) := by
  have e := so_go hi (rfl : soF sw st n (10 - i) i lf fa1 = _) c
  obtain ⟨e2, e3⟩ := soF_cong (sw := sw) (st := st) (n := n) (10 - (i + 1)) (i + 1) (pwF lf0 (htB sw st fa1 lf (nI (6 * i))) n) (soL sw st fa1 lf n (nI (6 * i))) (pwF fa1 (upA fa1 lf) n) (fun g hg => by
    unfold soL
    rw [an_ct z, pwF_lt hg]
    simp [pwF_lt hg])
  unfold soE at h ⊢
  rw [e] at e2 e3
  exact ⟨fun g hg => (e2 g hg).trans (h.1 g hg), e3.trans h.2⟩
theorem so_ex {sw st sc fa : Nat → Int32} {n : Nat} {lf : Nat → Bool} (hn : 0 < n) (h : ∀ g, g < n → lf g = (soF sw st n 9 1 (beB sc n) fa).1 g) : wnF sw st sc fa n < n ∧ lf (wnF sw st sc fa n) = true := by
  have h1 := wnF_lt (sw := sw) (st := st) (sc := sc) (fa := fa) hn
  exact ⟨h1, (h _ h1).trans (fiN_at h1)⟩
theorem so_win {sw st sc fa : Nat → Int32} {n j : Nat} {lf : Nat → Bool} (h : ∀ g, g < n → lf g = (soF sw st n 9 1 (beB sc n) fa).1 g) (hj : j < n) (hu : ∀ g, g < j → lf g = false) (hp : lf j = true) : nI j = nI (wnF sw st sc fa n) := by
  unfold wnF
  rw [fiN_yes (i := j) (fun g hg => (h g (by omega)).symm.trans (hu g hg)) ((h j hj).symm.trans hp) hj]
theorem so_in {lf : Nat → Bool} {n j w : Nat} (hw : w < n) (hl : lf w = true) (hu : ∀ g, g < j → lf g = false) : j ≤ w := by
  rcases Nat.lt_or_ge w j with c | c
  · exact absurd hl (by rw [hu w c]; decide)
  · exact c
theorem updP_self {F : Nat → Nat → Int32} {g : Nat} : updP F g (F g) = F := by
  funext j
  unfold updP
  by_cases h : j = g
  · rw [if_pos h, h]
  · rw [if_neg h]
theorem copy_push {X : va_W} {ad : Nat → Nat} {cI : ClassId} {sw st fa sc fi mi : Nat → Int32} {i q : Nat} : (X ++ wG ad cI sw st fa sc fi mi i) ++ wI q cI 6 (gR sw st fa sc fi mi i) = X ++ wG (updA ad i q) cI sw st fa sc fi mi (i + 1) := by
  rw [List.append_assoc]
  show X ++ (wP ad cI 6 (gR sw st fa sc fi mi) i ++ [(q, .inl (cI, 6, .inl (gR sw st fa sc fi mi i)))]) = _
  rw [wP_push, updP_self]
theorem gR_new {sw st fa sc fi mi : Nat → Int32} {n : Nat} {x y : Int32} : updP (gR sw st fa sc fi mi) n (upd (upd (upd (upd (upd (upd (fun _ => nI 0) 0 x) 1 y) 2 (nI 0)) 3 (nI 0)) 4 (nI 0)) 5 (nI 0)) = gR (upd sw n x) (upd st n y) (upd fa n (nI 0)) (upd sc n (nI 0)) (upd fi n (nI 0)) (upd mi n (nI 0)) := by
  funext j k
  unfold updP upd gR
  by_cases h : j = n
  · subst h
    match k with
    | 0 => simp
    | 1 => simp
    | 2 => simp
    | 3 => simp
    | 4 => simp
    | 5 => simp
    | k + 6 => simp
  · simp [h]
theorem add_push {X : va_W} {ad : Nat → Nat} {cI : ClassId} {sw st fa sc fi mi : Nat → Int32} {n q : Nat} {x y : Int32} : (X ++ wG ad cI sw st fa sc fi mi n) ++ wI q cI 6 (upd (upd (upd (upd (upd (upd (fun _ => nI 0) 0 x) 1 y) 2 (nI 0)) 3 (nI 0)) 4 (nI 0)) 5 (nI 0)) = X ++ wG (updA ad n q) cI (upd sw n x) (upd st n y) (upd fa n (nI 0)) (upd sc n (nI 0)) (upd fi n (nI 0)) (upd mi n (nI 0)) (n + 1) := by
  rw [List.append_assoc]
  show X ++ (wP ad cI 6 (gR sw st fa sc fi mi) n ++ [(q, .inl (cI, 6, .inl _))]) = _
  rw [wP_push, gR_new]
/-- the traps at first -/
abbrev z0 : Nat → Int32 := fun _ => nI 0
abbrev lf0 : Nat → Bool := fun _ => false
abbrev sp0 : Nat → Int32 := upd (upd (upd (upd (upd z0 0 (nI 20)) 1 (nI 20)) 2 (nI 20)) 3 (nI 20)) 4 (nI 20)
def rw0 : Nat → Int32 := upd (upd (fun _ => nI 0) 0 (nI 0)) 1 (nI 20)
theorem tR_0 {s : Nat} (h : s < 5) : tR z0 sp0 s = rw0 := by
  have e : sp0 s = nI 20 := by
    match s, h with
    | 0, _ => rfl
    | 1, _ => rfl
    | 2, _ => rfl
    | 3, _ => rfl
    | 4, _ => rfl
  funext k
  match k with
  | 0 => rfl
  | 1 => exact e
  | k + 2 => simp [tR, rw0, upd]
theorem wP5 {ad : Nat → Nat} {cI : ClassId} : wP ad cI 2 (fun _ => rw0) 5 = [(ad 0, .inl (cI, 2, .inl rw0)), (ad 1, .inl (cI, 2, .inl rw0)), (ad 2, .inl (cI, 2, .inl rw0)), (ad 3, .inl (cI, 2, .inl rw0)), (ad 4, .inl (cI, 2, .inl rw0))] := rfl
theorem rows5 {X : va_W} {cI : ClassId} {q0 q1 q2 q3 q4 : Nat} {ad : Nat → Nat} (h0 : ad 0 = q0) (h1 : ad 1 = q1) (h2 : ad 2 = q2) (h3 : ad 3 = q3) (h4 : ad 4 = q4) : ((((X ++ wI q0 cI 2 rw0) ++ wI q1 cI 2 rw0) ++ wI q2 cI 2 rw0) ++ wI q3 cI 2 rw0) ++ wI q4 cI 2 rw0 = X ++ wR ad cI z0 sp0 := by
  subst h0; subst h1; subst h2; subst h3; subst h4
  simp only [List.append_assoc]
  congr 1
  show _ = wP ad cI 2 (tR z0 sp0) 5
  rw [wP_congr (ad' := ad) (F' := fun _ => rw0) (fun _ _ => rfl) (fun g hg => tR_0 hg), wP5]
  rfl
/-- ranks: who has rank 1 has the greatest score -/
def rkB (sc : Nat → Int32) (n : Nat) : Nat → Bool := fun g => decide (1 + ctF (fun zj => decide (¬ sc zj ≤ sc g)) n = 1)
theorem ct_0 {p : Nat → Bool} : ∀ {n : Nat}, ctF p n = 0 ↔ ∀ g, g < n → p g = false
  | 0 => ⟨fun _ g hg => absurd hg (Nat.not_lt_zero g), fun _ => rfl⟩
  | n + 1 => by
    unfold ctF
    have ih := ct_0 (p := p) (n := n)
    refine ⟨fun e g hg => ?_, fun e => ?_⟩
    · by_cases h : g = n
      · subst h
        cases hh : p g
        · rfl
        · rw [hh] at e; simp at e
      · exact ih.mp (by omega) g (by omega)
    · rw [ih.mpr (fun g hg => e g (by omega)), e n (by omega)]
      rfl
theorem rk_be {sc : Nat → Int32} {n g : Nat} (hg : g < n) : rkB sc n g = beB sc n g := by
  obtain ⟨h1, h2⟩ := leF_max sc (n - 1)
  have hl := leF_le sc (n - 1)
  unfold rkB beB
  apply decide_eq_decide.mpr
  refine ⟨fun e => ?_, fun e => ?_⟩
  · have h0 := ct_0.mp (show ctF (fun zj => decide (¬ sc zj ≤ sc g)) n = 0 by omega) (leF sc (n - 1)) (by omega)
    have h3 : sc (leF sc (n - 1)) ≤ sc g := by simpa using h0
    exact Int32.le_antisymm (h1 g (by omega)) h3
  · have h0 : ctF (fun zj => decide (¬ sc zj ≤ sc g)) n = 0 := ct_0.mpr (fun j hj => by
      have := h1 j (by omega)
      rw [← e] at this
      simp [this])
    omega
theorem rk_ct {sc : Nat → Int32} {n : Nat} : ctF (rkB sc n) n = ctF (fun zj => decide (sc zj = sc (leF sc (n - 1)))) n := ctF_cong (fun _ hg => rk_be hg)
/-- the hardest clay, looked for from clay 0 on -/
theorem hd_keep {b r : Nat → Int32} {s j : Nat} (c : absF (angF b r s j) ≤ absF (angF b r s (haF b r s (j - 1)))) : haF b r s (j + 1 - 1) = haF b r s (j - 1) := by
  match j, c with
  | 0, _ => rfl
  | j + 1, c =>
    show haF b r s (j + 1) = haF b r s j
    exact if_pos c
theorem hd_take {b r : Nat → Int32} {s j : Nat} (c : ¬ absF (angF b r s j) ≤ absF (angF b r s (haF b r s (j - 1)))) : haF b r s (j + 1 - 1) = j := by
  match j, c with
  | 0, c => exact absurd (Int32.le_refl _) c
  | j + 1, c =>
    show haF b r s (j + 1) = j + 1
    exact if_neg c
theorem dc_self0 {sc : Nat → Int32} {n : Nat} (h0 : n = 0) : Op.cmpValue (FP.dcmp (meF sc n) FP.dconst0) .l = 0 := by
  unfold meF
  rw [if_pos h0]
  decide +kernel
theorem dc_self {sc : Nat → Int32} {n : Nat} (h0 : 0 < n) (h : n ≤ 6) : Op.cmpValue (FP.dcmp (meF sc n) (FP.ddiv (FP.i2d (smF sc n)) (FP.i2d (nI n)))) .l = 0 := by
  have h1 : FP.Core.dIsNaN (FP.Core.ddiv (FP.Core.i2d (smF sc n)) (FP.Core.i2d (nI n))) = false := FP.Core.ddiv_out (FP.Core.i2d_fin _).notNaN (FP.Core.i2d_fin _) (fun hz => FP.Core.i2d_ne_zero (nI_ne0 h0 (by omega)) ((FP.Core.zero_bits2 _).mp hz))
  have h2 : FP.dcmp (FP.ddiv (FP.i2d (smF sc n)) (FP.i2d (nI n))) (FP.ddiv (FP.i2d (smF sc n)) (FP.i2d (nI n))) = some .eq := FP.Core.dcmp_refl h1
  unfold meF
  rw [if_neg (by omega), h2]
  rfl
