/-! the model's looks ahead: pure facts -/
theorem soF_tail {sw st : Nat → Int32} {n : Nat} : ∀ (m k : Nat) (lf : Nat → Bool) (fa : Nat → Int32) (j : Nat), n ≤ j → (soF sw st n m k lf fa).2 j = fa j
  | 0, k, lf, fa, j, h => rfl
  | m + 1, k, lf, fa, j, h => by
    unfold soF
    split
    · rfl
    · rw [soF_tail m (k + 1) _ _ j h, pwF_at h]
theorem waF_tail {sw st sc fa : Nat → Int32} {n j : Nat} (h : n ≤ j) : waF sw st sc fa n j = fa j := soF_tail 9 1 _ _ j h
def bsI (f : Nat → Int32) (i : Nat) : Int32 := if i = 0 then (-1) else nI (brF f (i - 1))
def moI (f : Nat → Int32) (i : Nat) : Int32 := if i = 0 then nI 0 else f (brF f (i - 1))
theorem bsI_s (f : Nat → Int32) (i : Nat) : bsI f (i + 1) = nI (brF f i) := rfl
theorem moI_s (f : Nat → Int32) (i : Nat) : moI f (i + 1) = f (brF f i) := rfl
theorem bsI_0 {f : Nat → Int32} {i : Nat} (h : i = 0) : bsI f i = (-1) := if_pos h
theorem bsI_p {f : Nat → Int32} {i : Nat} (h : 0 < i) : bsI f i = nI (brF f (i - 1)) := if_neg (by omega)
theorem moI_p {f : Nat → Int32} {i : Nat} (h : 0 < i) : moI f i = f (brF f (i - 1)) := if_neg (by omega)
theorem brF_keep {f : Nat → Int32} {i : Nat} (h : 0 < i) (c : ¬ f (brF f (i - 1)) < f i) : brF f i = brF f (i - 1) := by
  obtain ⟨k, rfl⟩ : ∃ k, i = k + 1 := ⟨i - 1, by omega⟩
  exact if_pos (Int32.not_lt.mp c)
theorem brF_take {f : Nat → Int32} {i : Nat} (h : 0 < i) (c : f (brF f (i - 1)) < f i) : brF f i = i := by
  obtain ⟨k, rfl⟩ : ∃ k, i = k + 1 := ⟨i - 1, by omega⟩
  exact if_neg (Int32.not_le.mpr c)
theorem maxF_assoc (x y z : Int32) : maxF (maxF x y) z = maxF x (maxF y z) := by
  unfold maxF
  by_cases h1 : x < y <;> by_cases h2 : y < z <;> by_cases h3 : x < z <;> simp only [h1, h2, h3, if_true, if_false]
  all_goals (try rfl)
  all_goals (exfalso; simp only [Int32.lt_iff_toInt_lt] at *; omega)
theorem grF_max (b r : Nat → Int32) (x y : Int32) : ∀ k, maxF x (grF b r y k) = grF b r (maxF x y) k
  | 0 => rfl
  | k + 1 => by rw [grF, grF, ← maxF_assoc, grF_max b r x y k]
theorem swF_eq (b r : Nat → Int32) : maxF (nI 5) (grF b r (nI 0) 5) = grF b r (nI 5) 5 := by
  rw [grF_max]
  rfl
