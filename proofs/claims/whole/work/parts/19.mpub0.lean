/-! what the model's checks come to -/
theorem bad_gun {x : Int32} {n : Nat} (hn : n ≤ 6) (h : x < 0 ∨ nI n ≤ x) : x < nI 0 ∨ nI n - nI 1 < x := by
  rcases h with h | h
  · exact Or.inl (nI_0 ▸ h)
  · refine Or.inr ?_
    rw [Int32.le_iff_toInt_le, nI_toInt (by omega)] at h
    rw [Int32.lt_iff_toInt_lt, pk_sub_toInt (by omega) (by omega)]
    omega
theorem bad_5 {x : Int32} (h : x < 0 ∨ nI 5 ≤ x) : x < nI 0 ∨ nI 4 < x := by
  rcases h with h | h
  · exact Or.inl (nI_0 ▸ h)
  · refine Or.inr ?_
    rw [Int32.le_iff_toInt_le, nI_toInt (by omega)] at h
    rw [Int32.lt_iff_toInt_lt, nI_toInt (by omega)]
    omega
theorem sum_mi {f g : Nat → Int32} {n : Nat} : smF (pwF f g n) n - smF f n = smF (fun zj => g zj - f zj) n := by
  rw [smF_sub, smF_cong (fun j hj => pwF_lt hj)]
