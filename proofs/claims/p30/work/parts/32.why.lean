/-! the law: why its checks hold -/
theorem room_c : 9000 ≤ room_1.cells := by decide
theorem room_s : 90000 ≤ room_1.slots := by decide
theorem lg_self (x : Int64) : lg_cmp x x = 0 := by simp [lg_cmp]
theorem p_mono : ∀ a, a < 46 → ∀ c, c < 4 → (nI a * (nI c - nI 2) / nI 2).toInt ≤ (nI a * (nI (c + 1) - nI 2) / nI 2).toInt := by decide +kernel
theorem p_sum : ∀ a, a < 46 → ∀ c, c < 5 → nI a * (nI c - nI 2) / nI 2 + nI a * (nI (4 - c) - nI 2) / nI 2 = 0 := by decide +kernel
theorem p_two : ∀ a, a < 46 → nI a * (nI 2 - nI 2) / nI 2 = 0 := by decide +kernel
section AN
variable {b r : Nat → Int32} {s c : Nat}
theorem ang_mono (hb : -45 ≤ (b s).toInt ∧ (b s).toInt ≤ 45) (hr : inN (r s) 45) (h0 : 0 < c) (hc : c < 5) : ¬ angF b r s c < angF b r s (c - 1) := by
  obtain ⟨a, ha, e⟩ := inN_nI hr (by decide)
  obtain ⟨d, rfl⟩ : ∃ d, c = d + 1 := ⟨c - 1, by omega⟩
  unfold angF
  rw [e, Nat.add_sub_cancel]
  have h1 := ang_r a (by omega) d (by omega)
  have h2 := ang_r a (by omega) (d + 1) hc
  have h3 := p_mono a (by omega) d (by omega)
  generalize nI a * (nI d - nI 2) / nI 2 = x at *
  generalize nI a * (nI (d + 1) - nI 2) / nI 2 = y at *
  generalize b s = z at *
  rw [Int32.lt_iff_toInt_lt, Jvm.Kit.i32_add (by omega) (by omega), Jvm.Kit.i32_add (by omega) (by omega)]
  omega
theorem ang_sum (hr : inN (r s) 45) (hc : c < 5) : angF b r s c + angF b r s (4 - c) = nI 2 * angF b r s 2 := by
  obtain ⟨a, ha, e⟩ := inN_nI hr (by decide)
  unfold angF
  rw [e, p_two a (by omega)]
  have h1 := p_sum a (by omega) c hc
  generalize nI a * (nI c - nI 2) / nI 2 = x at *
  generalize nI a * (nI (4 - c) - nI 2) / nI 2 = y at *
  generalize b s = z at *
  rw [show z + x + (z + y) = (z + z) + (x + y) by ac_rfl, h1, Int32.add_zero, Int32.add_zero, show nI 2 = 1 + 1 by decide, Int32.add_mul, Int32.one_mul]
theorem ha_max (b r : Nat → Int32) (s : Nat) : ∀ k j, j ≤ k → absF (angF b r s j) ≤ absF (angF b r s (haF b r s k))
  | 0, j, hj => by rw [Nat.le_zero.mp hj]; exact Int32.le_refl _
  | k + 1, j, hj => by
    have ih := ha_max b r s k
    unfold haF
    by_cases c : absF (angF b r s (k + 1)) ≤ absF (angF b r s (haF b r s k))
    · rw [if_pos c]
      by_cases e : j = k + 1
      · rw [e]; exact c
      · exact ih j (by omega)
    · rw [if_neg c]
      by_cases e : j = k + 1
      · rw [e]; exact Int32.le_refl _
      · exact Int32.le_trans (ih j (by omega)) (Int32.le_of_lt (Int32.not_le.mp c))
/-- the farthest angle so far, at a stand -/
def fcF (b r : Nat → Int32) (s : Nat) (x : Int32) : Nat → Int32
  | 0 => x
  | j + 1 => maxF (fcF b r s x j) (absF (angF b r s j))
theorem mx_l (x y : Int32) : x ≤ maxF x y := by
  unfold maxF
  split
  · exact Int32.le_of_lt (by assumption)
  · exact Int32.le_refl _
theorem mx_r (x y : Int32) : y ≤ maxF x y := by
  unfold maxF
  split
  · exact Int32.le_refl _
  · exact Int32.not_lt.mp (by assumption)
theorem mx_or (x y : Int32) : maxF x y = x ∨ maxF x y = y := by
  unfold maxF
  split
  · exact Or.inr rfl
  · exact Or.inl rfl
theorem fc_in (b r : Nat → Int32) (s : Nat) (x : Int32) : ∀ j, x ≤ fcF b r s x j ∧ (∀ c, c < j → absF (angF b r s c) ≤ fcF b r s x j) ∧ (fcF b r s x j = x ∨ ∃ c, c < j ∧ fcF b r s x j = absF (angF b r s c))
  | 0 => ⟨Int32.le_refl _, fun c hc => absurd hc (Nat.not_lt_zero c), Or.inl rfl⟩
  | j + 1 => by
    obtain ⟨h1, h2, h3⟩ := fc_in b r s x j
    show x ≤ maxF (fcF b r s x j) (absF (angF b r s j)) ∧ (∀ c, c < j + 1 → absF (angF b r s c) ≤ maxF (fcF b r s x j) (absF (angF b r s j))) ∧ (maxF (fcF b r s x j) (absF (angF b r s j)) = x ∨ ∃ c, c < j + 1 ∧ maxF (fcF b r s x j) (absF (angF b r s j)) = absF (angF b r s c))
    refine ⟨Int32.le_trans h1 (mx_l _ _), fun c hc => ?_, ?_⟩
    · by_cases e : c = j
      · rw [e]; exact mx_r _ _
      · exact Int32.le_trans (h2 c (by omega)) (mx_l _ _)
    · rcases mx_or (fcF b r s x j) (absF (angF b r s j)) with e | e
      · rw [e]
        rcases h3 with h3 | ⟨c, hc, h3⟩
        · exact Or.inl h3
        · exact Or.inr ⟨c, by omega, h3⟩
      · exact Or.inr ⟨j, by omega, e⟩
theorem fc_5 {x : Int32} : fcF b r s x 5 = maxF x (absF (angF b r s (haF b r s 4))) := by
  obtain ⟨h1, h2, h3⟩ := fc_in b r s x 5
  have h4 := haF_le b r s 4
  have h5 := h2 (haF b r s 4) (by omega)
  rcases h3 with h3 | ⟨c, hc, h3⟩
  · rcases mx_or x (absF (angF b r s (haF b r s 4))) with e | e
    · rw [e, h3]
    · rw [e, h3]
      rw [h3] at h5
      have h6 := mx_l x (absF (angF b r s (haF b r s 4)))
      rw [e] at h6
      exact Int32.le_antisymm h6 h5
  · have h6 := ha_max b r s 4 c (by omega)
    rw [h3] at h5 h1 ⊢
    have h7 := Int32.le_antisymm h6 h5
    rcases mx_or x (absF (angF b r s (haF b r s 4))) with e | e
    · rw [e]
      have h8 := mx_r x (absF (angF b r s (haF b r s 4)))
      rw [e, ← h7] at h8
      exact Int32.le_antisymm h8 h1
    · rw [e]; exact h7
theorem gr_s {i : Nat} : fcF b r i (grF b r (nI 0) i) 5 = grF b r (nI 0) (i + 1) := fc_5
theorem sw_neg (h : ¬ 0 ≤ swF b r) : nI 60 < grF b r (nI 0) 5 := by
  unfold swF at h
  by_cases c : maxF (nI 5) (grF b r (nI 0) 5) ≤ nI 60
  · rw [if_pos c] at h
    exact absurd (Int32.le_trans (show (0 : Int32) ≤ nI 5 by decide) (mx_l _ _)) h
  · have c := Int32.not_le.mp c
    rcases mx_or (nI 5) (grF b r (nI 0) 5) with e | e
    · rw [e] at c
      exact absurd c (by decide)
    · rw [e] at c
      exact c
theorem sw_pos (h : 0 ≤ swF b r) : swF b r = maxF (nI 5) (grF b r (nI 0) 5) := by
  unfold swF at h ⊢
  by_cases c : maxF (nI 5) (grF b r (nI 0) 5) ≤ nI 60
  · rw [if_pos c]
  · rw [if_neg c] at h
    exact absurd h (by decide)
end AN
theorem st_add {T g : Nat} : stF T g = (stF T 0 + g) % 5 := by
  unfold stF
  omega
section LD
variable {sc : Nat → Int32} {n i : Nat}
theorem ld_yes (hi : i < n) (h : nI i = ldF sc n) (hn : n ≤ 6) : (1 + ctF (fun zj => decide (¬ sc zj ≤ sc i)) n = 1) ∧ ctF (rkB sc n) (i + 1) = 1 := by
  rw [ldF_pos (by omega)] at h
  have hl := leF_le sc (n - 1)
  have e := (nI_eq (by omega) (by omega)).mp h
  obtain ⟨h1, h2⟩ := leF_max sc (n - 1)
  have hb : beB sc n i = true := by unfold beB; rw [e]; simp
  have hr : rkB sc n i = true := (rk_be hi).trans hb
  refine ⟨by simpa [rkB] using hr, ?_⟩
  have h0 : ctF (rkB sc n) i = 0 := ct_0.mpr (fun j hj => by
    rw [rk_be (by omega)]
    unfold beB
    have := h2 j (by omega)
    exact decide_eq_false (fun z => this (by rw [z]; exact Int32.le_refl _)))
  unfold ctF
  rw [h0, hr]
  rfl
theorem ld_no (hi : i < n) (hn : n ≤ 6) (h1 : 1 + ctF (fun zj => decide (¬ sc zj ≤ sc i)) n = 1) (h2 : ctF (rkB sc n) (i + 1) = 1) : nI i = ldF sc n := by
  rw [ldF_pos (by omega)]
  have hl := leF_le sc (n - 1)
  obtain ⟨g1, g2⟩ := leF_max sc (n - 1)
  have hr : rkB sc n i = true := by simpa [rkB] using h1
  have hb : beB sc n i = true := (rk_be hi).symm.trans hr
  have e : sc i = sc (leF sc (n - 1)) := by simpa [beB] using hb
  have h0 : ctF (rkB sc n) i = 0 := by
    unfold ctF at h2
    rw [hr] at h2
    simp at h2
    exact h2
  rcases Nat.lt_trichotomy i (leF sc (n - 1)) with c | c | c
  · exact absurd (by rw [e]; exact Int32.le_refl _) (g2 i c)
  · rw [← c]
  · have h3 := ct_0.mp h0 (leF sc (n - 1)) c
    rw [rk_be (by omega)] at h3
    simp [beB] at h3
end LD
theorem sc_fi {K : Nat} {sc fi : Nat → Int32} (h : scI K sc fi) (hK : K ≤ 512) (g : Nat) : ¬ sc g < nI 2 * fi g := by
  obtain ⟨s, f, h1, h2, h3, h4⟩ := h g
  rw [h1, h2, pk_mul]
  exact nI_nlt h3 (by omega)
theorem fa_pos {x : Int32} {N : Nat} (h : inN x N) : ¬ x < 0 := by
  rw [Int32.lt_iff_toInt_lt, Int32.toInt_zero]
  have := h.1
  omega
theorem ou_two {sw st fa am : Int32} (h1 : nI 1 ≤ st) (h : ouF sw st fa am = nI 2) : am + fa / st ≤ sw := by
  unfold ouF trF at h
  rw [if_pos h1] at h
  by_cases c : sw < am + fa / st
  · rw [if_pos c] at h
    split at h
    · exact absurd h (by decide)
    · exact absurd h (by decide)
  · exact Int32.not_lt.mp c
theorem br_le (f : Nat → Int32) : ∀ k, brF f k = leF f k
  | 0 => rfl
  | k + 1 => by
    unfold brF leF
    rw [br_le f k]
theorem br_max {f : Nat → Int32} {k j : Nat} (hj : j ≤ k) : ¬ f (brF f k) < f j := by
  rw [br_le]
  exact Int32.not_lt.mpr ((leF_max f k).1 j hj)
theorem br_first {f : Nat → Int32} {k j : Nat} (e : f j = f (brF f k)) (h : j < brF f k) : False := by
  rw [br_le] at e h
  exact (leF_max f k).2 j h (by rw [e]; exact Int32.le_refl _)
theorem sim_re {sw st b r sc fi mi fa : Nat → Int32} {T n g k : Nat} (hg : g < n) : pwF (pwF sc (plS sw st b r sc fi mi fa T k) n) (plS sw st b r (pwF sc (plS sw st b r sc fi mi fa T k) n) (pwF fi (plF sw st b r sc fi mi fa T k) n) (pwF mi (plM sw st b r sc fi mi fa T k) n) (upd (pwF fa (plA sw st b r sc fi mi fa T k) n) g (nI 0)) (T + k) (25 - k)) n g = reF sw st b r sc fi mi fa T g k := by
  rw [pwF_lt hg]
  unfold plS
  simp only [pwF_lt hg, pk_us]
  rfl
theorem um_ne0 {p : Nat → Bool} {n : Nat} (hn : n ≤ 1000) : ¬ umF p n = 0 := by
  unfold umF
  split
  · exact nI_ne0 (by omega) (by omega)
  · decide
theorem um_100 {p : Nat → Bool} : ¬ nI 100 < umF p 100 := by
  unfold umF
  split
  · exact nI_nlt (by omega) (by omega)
  · decide
theorem soL_sub {sw st fa : Nat → Int32} {lf : Nat → Bool} {n g : Nat} {am : Int32} (h : soL sw st fa lf n am g = true) : lf g = true := by
  unfold soL at h
  split at h
  · unfold pwF at h
    split at h
    · unfold htB at h
      exact (Bool.and_eq_true_iff.mp h).1
    · exact h
  · exact h
theorem so_sub {sw st : Nat → Int32} {n g : Nat} : ∀ (m k : Nat) (lf : Nat → Bool) (fa : Nat → Int32), (soF sw st n m k lf fa).1 g = true → lf g = true
  | 0, _, _, _, h => h
  | m + 1, k, lf, fa, h => by
    unfold soF at h
    split at h
    · exact h
    · exact soL_sub (so_sub m (k + 1) _ _ h)
theorem win_rank {sw st sc fa : Nat → Int32} {n : Nat} (hn : 0 < n) : ¬ 1 < 1 + ctF (fun zj => decide (¬ sc zj ≤ sc (wnF sw st sc fa n))) n := by
  have h1 := wnF_lt (sw := sw) (st := st) (sc := sc) (fa := fa) hn
  have h2 : (soF sw st n 9 1 (beB sc n) fa).1 (wnF sw st sc fa n) = true := fiN_at h1
  have h3 := so_sub 9 1 (beB sc n) fa h2
  have h4 := (rk_be h1).trans h3
  unfold rkB at h4
  have := of_decide_eq_true h4
  omega
/-- one turn of all: misses -/
theorem ms_1 {sw st b r sc fi mi fa : Nat → Int32} {T n : Nat} : smF (fun zj => plM sw st b r sc fi mi fa T 1 zj - mi zj) n = nI (ctF (msB sw st b r fa T) n) := by
  rw [ms_sum 1]
  show nI (0 + ctF (msB sw st b r (pwF fa (plA sw st b r sc fi mi fa T 0) n) (T + 0)) n) = _
  rw [pl_0A, Nat.zero_add, Nat.add_zero]
theorem sub_step (x : Int32) (a : Nat) : x - nI a - nI 1 = x - nI (a + 1) := by
  rw [← nI_add, Int32.sub_eq_add_neg, Int32.sub_eq_add_neg, Int32.sub_eq_add_neg, Int32.neg_add, Int32.sub_eq_add_neg]
  ac_rfl
theorem sub_zero' (x : Int32) : x - nI 0 = x := by
  rw [nI_0, Int32.sub_zero]
section TU
variable {sw st b r sc fi mi fa : Nat → Int32} {T n i j : Nat}
theorem sc_next (hj : j < n) : pwF sc (plS sw st b r sc fi mi fa T (i + 1)) n j = pwF sc (plS sw st b r sc fi mi fa T i) n j + ouF (sw j) (st j) (pwF fa (plA sw st b r sc fi mi fa T i) n j) (amF b r (T + i) j) := by
  rw [pwF_lt hj, pwF_lt hj, pwF_lt hj]
  rfl
theorem fa_next (hj : j < n) : pwF fa (plA sw st b r sc fi mi fa T (i + 1)) n j = if (T + i) % 5 = 4 then maxF (nI 0) (pwF fa (plA sw st b r sc fi mi fa T i) n j + (if ouF (sw j) (st j) (pwF fa (plA sw st b r sc fi mi fa T i) n j) (amF b r (T + i) j) = nI 2 then nI 1 else nI 2) - nI 3) else pwF fa (plA sw st b r sc fi mi fa T i) n j + (if ouF (sw j) (st j) (pwF fa (plA sw st b r sc fi mi fa T i) n j) (amF b r (T + i) j) = nI 2 then nI 1 else nI 2) := by
  rw [pwF_lt hj, pwF_lt hj]
  rfl
theorem mi_now {N : Nat} (hj : j < n) (hst : nI 1 ≤ st j) (hfa : ∀ g, inN (fa g) N) (hN : N + 2 * i ≤ 2 ^ 29) (ham : inN (amF b r (T + i) j) 1000) : (ouF (sw j) (st j) (pwF fa (plA sw st b r sc fi mi fa T i) n j) (amF b r (T + i) j) = 0) ↔ miB sw b r T j i = true := by
  rw [ou_miss hst (inN_mono (pl_in hfa (by omega) j) hN) ham]
  unfold miB
  simp
end TU
section UM
variable {p : Nat → Bool} {i n : Nat}
theorem di_0 : nI 0 = bN (decide (fiN p 0 < 0)) := rfl
theorem di_keep (h : decide (fiN p i < i) = true) : bN (decide (fiN p (i + 1) < i + 1)) = bN (decide (fiN p i < i)) := by
  have h1 := of_decide_eq_true h
  have e := fiN_mono h1 1
  rw [e, h, decide_eq_true (show fiN p i < i + 1 by omega)]
theorem di_yes (h : decide (fiN p i < i) = false) (hp : p i = true) : nI 1 = bN (decide (fiN p (i + 1) < i + 1)) := by
  have h1 := of_decide_eq_false h
  rw [fiN_yes (fiN_none h1) hp (Nat.lt_succ_self i), decide_eq_true (Nat.lt_succ_self i)]
  rfl
theorem di_no (h : decide (fiN p i < i) = false) (hp : ¬ p i = true) : nI 0 = bN (decide (fiN p (i + 1) < i + 1)) := by
  have h1 := of_decide_eq_false h
  have hp : p i = false := by simpa using hp
  rw [fiN_no (no_step (fiN_none h1) hp), decide_eq_false (Nat.lt_irrefl _)]
  rfl
theorem um_yes (h : decide (fiN p i < i) = false) (hp : p i = true) (hi : i < n) : umF p n = nI (1 + i) := by
  unfold umF
  rw [fiN_yes (fiN_none (of_decide_eq_false h)) hp hi, if_pos hi, Nat.add_comm]
theorem um_not (hp : ¬ p i = true) (hn : n ≤ 1000) (hi : i < n) : ¬ umF p n = nI (1 + i) := by
  intro e
  unfold umF at e
  split at e
  · rename_i c
    have h1 := (nI_eq (by omega) (by omega)).mp e
    have h2 := fiN_at c
    rw [show fiN p n = i by omega] at h2
    exact hp h2
  · exact nI_m1 (by omega) e.symm
end UM
theorem z_lstore {p : Program} {l : Launch} {e : Env} {R : Room} {s : State} {m : MethodId} {args : Array Value} {below : List Frame} {meth : Method} {c : Code} {cc : ByteArray} {nL : Nat} {own : String} {G : va_G} {tys : List (ClassId × FieldType)} {A : Nat → Prop} {cells slots : Nat} {Q : State → Prop} {ws : va_W} {lv : List (Nat × Value)} {pc n : Nat} {rest : List Value} (hC : Cx p s m args c cc nL own G tys A) {i : Nat} {x : Int64} {lv' : List (Nat × Value)} (hdg : decode cc pc = .ok (.lstore i, 2)) (hr : i + 1 < nL) (hl9 : (i, Value.long x) :: lv.filter (fun q => !(q.1 == i) && (!(q.1 == i + 1) && !(q.1 + 1 == i && q.2.category == 2))) = lv') (hn : pc + 2 = n) (k : ZZ p l e R s m args below meth c G A nL cells slots Q ws lv' n rest) : ZZ p l e R s m args below meth c G A nL cells slots Q ws lv pc (.long x :: rest) := by
  subst hn
  exact fun H locs ls hP hD hS hl => lv_lstore hC.1 hC.2.1 hdg hl hr hl9 (fun ls' hl' => k H locs ls' hP hD hS hl')
theorem z_lload {p : Program} {l : Launch} {e : Env} {R : Room} {s : State} {m : MethodId} {args : Array Value} {below : List Frame} {meth : Method} {c : Code} {cc : ByteArray} {nL : Nat} {own : String} {G : va_G} {tys : List (ClassId × FieldType)} {A : Nat → Prop} {cells slots : Nat} {Q : State → Prop} {ws : va_W} {lv : List (Nat × Value)} {pc n : Nat} {rest : List Value} (hC : Cx p s m args c cc nL own G tys A) {i : Nat} {x : Int64} (hdg : decode cc pc = .ok (.lload i, 2)) (j : Nat) (hj : lv[j]? = some (i, .long x)) (hn : pc + 2 = n) (k : ZZ p l e R s m args below meth c G A nL cells slots Q ws lv n (.long x :: rest)) : ZZ p l e R s m args below meth c G A nL cells slots Q ws lv pc rest := by
  subst hn
  exact fun H locs ls hP hD hS hl => lv_lload hC.1 hC.2.1 hdg (lv_at hl j hj) (k H locs ls hP hD hS hl)
