/-! The model's row 'now', and what its methods do to it. -/
def nowF (T : Nat) (sc fi mi fa : Nat → Int32) : Nat → Int32 := fun k => if k = 0 then nI T else if k < 7 then sc (k - 1) else if k < 13 then fi (k - 7) else if k < 19 then mi (k - 13) else fa (k - 19)
/-- the model, its row as T, sc, fi, mi, fa -/
abbrev wN (a : Nat → Nat) (cI : ClassId) (th : Int32) (n : Nat) (sw st b r : Nat → Int32) (T : Nat) (sc fi mi fa K : Nat → Int32) : va_W := wM a cI th n sw st b r (nowF T sc fi mi fa) K
section NW
variable {T T' g : Nat} {sc fi mi fa : Nat → Int32} {v : Int32}
theorem nw_sc (h : g < 6) : nowF T sc fi mi fa (1 + g) = sc g := by
  unfold nowF
  rw [if_neg (by omega), if_pos (by omega)]; congr 1; omega
theorem nw_fi (h : g < 6) : nowF T sc fi mi fa (7 + g) = fi g := by
  unfold nowF
  rw [if_neg (by omega), if_neg (by omega), if_pos (by omega)]; congr 1; omega
theorem nw_mi (h : g < 6) : nowF T sc fi mi fa (13 + g) = mi g := by
  unfold nowF
  rw [if_neg (by omega), if_neg (by omega), if_neg (by omega), if_pos (by omega)]; congr 1; omega
theorem nw_fa : nowF T sc fi mi fa (19 + g) = fa g := by
  unfold nowF
  rw [if_neg (by omega), if_neg (by omega), if_neg (by omega), if_neg (by omega)]; congr 1; omega
theorem nwu_T : upd (nowF T sc fi mi fa) 0 (nI T') = nowF T' sc fi mi fa := by
  funext k
  unfold upd nowF
  by_cases h : k = 0 <;> simp [h]
theorem nwu_sc (h : g < 6) : upd (nowF T sc fi mi fa) (1 + g) v = nowF T (upd sc g v) fi mi fa := by
  funext k
  unfold upd nowF
  by_cases h1 : k = 1 + g
  · subst h1
    rw [if_pos rfl, if_neg (by omega), if_pos (by omega)]
    show v = if 1 + g - 1 = g then v else _
    rw [if_pos (by omega)]
  · rw [if_neg h1]
    by_cases h2 : k = 0
    · simp [h2]
    · by_cases h3 : k < 7
      · simp only [h2, h3, if_true, if_false]; rw [if_neg (by omega)]
      · simp only [h2, h3, if_false]
theorem nwu_fi (h : g < 6) : upd (nowF T sc fi mi fa) (7 + g) v = nowF T sc (upd fi g v) mi fa := by
  funext k
  unfold upd nowF
  by_cases h1 : k = 7 + g
  · subst h1
    rw [if_pos rfl, if_neg (by omega), if_neg (by omega), if_pos (by omega)]
    show v = if 7 + g - 7 = g then v else _
    rw [if_pos (by omega)]
  · rw [if_neg h1]
    by_cases h2 : k < 7
    · simp [h2]
    · by_cases h3 : k < 13
      · simp only [show ¬ k = 0 by omega, h2, h3, if_true, if_false]; rw [if_neg (by omega)]
      · simp only [h2, h3, if_false]
theorem nwu_mi (h : g < 6) : upd (nowF T sc fi mi fa) (13 + g) v = nowF T sc fi (upd mi g v) fa := by
  funext k
  unfold upd nowF
  by_cases h1 : k = 13 + g
  · subst h1
    rw [if_pos rfl, if_neg (by omega), if_neg (by omega), if_neg (by omega), if_pos (by omega)]
    show v = if 13 + g - 13 = g then v else _
    rw [if_pos (by omega)]
  · rw [if_neg h1]
    by_cases h2 : k < 13
    · simp [h2]
    · by_cases h3 : k < 19
      · simp only [show ¬ k = 0 by omega, show ¬ k < 7 by omega, h2, h3, if_true, if_false]; rw [if_neg (by omega)]
      · simp only [h2, h3, if_false]
theorem nwu_fa : upd (nowF T sc fi mi fa) (19 + g) v = nowF T sc fi mi (upd fa g v) := by
  funext k
  unfold upd nowF
  by_cases h1 : k = 19 + g
  · subst h1
    rw [if_pos rfl, if_neg (by omega), if_neg (by omega), if_neg (by omega), if_neg (by omega)]
    show v = if 19 + g - 19 = g then v else _
    rw [if_pos (by omega)]
  · rw [if_neg h1]
    by_cases h2 : k < 19
    · simp [h2]
    · simp only [show ¬ k = 0 by omega, show ¬ k < 7 by omega, show ¬ k < 13 by omega, h2, if_false]; rw [if_neg (by omega)]
theorem nw_back {T0 : Nat} {sc0 fi0 mi0 fa0 K0 : Nat → Int32} (h : ∀ g, 6 ≤ g → fa g = fa0 g) : va_cpy (va_cpy (nowF T0 sc0 fi0 mi0 fa0) K0 0 0 25) (nowF T sc fi mi fa) 0 0 25 = nowF T0 sc0 fi0 mi0 fa0 := by
  funext k
  unfold va_cpy
  by_cases h1 : k < 25
  · simp [h1]
  · simp only [Nat.zero_le, true_and, Nat.zero_add, h1, if_false]
    unfold nowF
    simp only [show ¬ k = 0 by omega, show ¬ k < 7 by omega, show ¬ k < 13 by omega, show ¬ k < 19 by omega, if_false]
    exact h _ (by omega)
end NW
theorem add0 (x : Int32) : x + nI 0 = x := by rw [nI_0]; exact Int32.add_zero x
/-- a turn, before it is walked on: each gun has shot -/
def shq (sw st b r sc fi mi fa : Nat → Int32) (T : Nat) (g : Nat) : Int32 × Int32 × Int32 × Int32 := shQ (ouF (sw g) (st g) (fa g) (amF b r T g)) (sc g, fi g, mi g, fa g)
def shS (sw st b r sc fi mi fa : Nat → Int32) (T : Nat) : Nat → Int32 := fun g => (shq sw st b r sc fi mi fa T g).1
def shF (sw st b r sc fi mi fa : Nat → Int32) (T : Nat) : Nat → Int32 := fun g => (shq sw st b r sc fi mi fa T g).2.1
def shM (sw st b r sc fi mi fa : Nat → Int32) (T : Nat) : Nat → Int32 := fun g => (shq sw st b r sc fi mi fa T g).2.2.1
def shA (sw st b r sc fi mi fa : Nat → Int32) (T : Nat) : Nat → Int32 := fun g => (shq sw st b r sc fi mi fa T g).2.2.2
def mxA (sw st b r sc fi mi fa : Nat → Int32) (T : Nat) : Nat → Int32 := fun g => maxF (nI 0) (shA sw st b r sc fi mi fa T g - nI 3)
section PL
variable {sw st b r sc fi mi fa : Nat → Int32} {T n k : Nat}
theorem pl1_S : plS sw st b r sc fi mi fa T 1 = shS sw st b r sc fi mi fa T := rfl
theorem pl1_F : plF sw st b r sc fi mi fa T 1 = shF sw st b r sc fi mi fa T := rfl
theorem pl1_M : plM sw st b r sc fi mi fa T 1 = shM sw st b r sc fi mi fa T := rfl
theorem pl1_A (h : T % 5 = 4) : plA sw st b r sc fi mi fa T 1 = mxA sw st b r sc fi mi fa T := by
  funext g
  show (tuQ (sw g) (st g) b r (T + 0) g (sc g, fi g, mi g, fa g)).2.2.2 = _
  unfold tuQ mxA shA shq
  simp only [Nat.add_zero, h, if_true]
theorem pl1_A' (h : ¬ T % 5 = 4) : plA sw st b r sc fi mi fa T 1 = shA sw st b r sc fi mi fa T := by
  funext g
  show (tuQ (sw g) (st g) b r (T + 0) g (sc g, fi g, mi g, fa g)).2.2.2 = _
  unfold tuQ shA shq
  simp only [Nat.add_zero, h, if_false]
theorem pl_0S : pwF sc (plS sw st b r sc fi mi fa T 0) n = sc := by
  funext g
  unfold pwF
  by_cases h : g < n <;> simp [h, plS, ruQ]
theorem pl_0F : pwF fi (plF sw st b r sc fi mi fa T 0) n = fi := by
  funext g
  unfold pwF
  by_cases h : g < n <;> simp [h, plF, ruQ]
theorem pl_0M : pwF mi (plM sw st b r sc fi mi fa T 0) n = mi := by
  funext g
  unfold pwF
  by_cases h : g < n <;> simp [h, plM, ruQ]
theorem pl_0A : pwF fa (plA sw st b r sc fi mi fa T 0) n = fa := by
  funext g
  unfold pwF
  by_cases h : g < n <;> simp [h, plA, ruQ]
theorem pl_sS : pwF (pwF sc (plS sw st b r sc fi mi fa T k) n) (plS sw st b r (pwF sc (plS sw st b r sc fi mi fa T k) n) (pwF fi (plF sw st b r sc fi mi fa T k) n) (pwF mi (plM sw st b r sc fi mi fa T k) n) (pwF fa (plA sw st b r sc fi mi fa T k) n) (T + k) 1) n = pwF sc (plS sw st b r sc fi mi fa T (k + 1)) n := by
  funext g
  by_cases h : g < n
  · rw [pwF_lt h, pwF_lt h]; unfold plS; simp only [pwF_lt h]; rfl
  · rw [pwF_at (by omega), pwF_at (by omega), pwF_at (by omega)]
theorem pl_sF : pwF (pwF fi (plF sw st b r sc fi mi fa T k) n) (plF sw st b r (pwF sc (plS sw st b r sc fi mi fa T k) n) (pwF fi (plF sw st b r sc fi mi fa T k) n) (pwF mi (plM sw st b r sc fi mi fa T k) n) (pwF fa (plA sw st b r sc fi mi fa T k) n) (T + k) 1) n = pwF fi (plF sw st b r sc fi mi fa T (k + 1)) n := by
  funext g
  by_cases h : g < n
  · rw [pwF_lt h, pwF_lt h]; unfold plF; simp only [pwF_lt h]; rfl
  · rw [pwF_at (by omega), pwF_at (by omega), pwF_at (by omega)]
theorem pl_sM : pwF (pwF mi (plM sw st b r sc fi mi fa T k) n) (plM sw st b r (pwF sc (plS sw st b r sc fi mi fa T k) n) (pwF fi (plF sw st b r sc fi mi fa T k) n) (pwF mi (plM sw st b r sc fi mi fa T k) n) (pwF fa (plA sw st b r sc fi mi fa T k) n) (T + k) 1) n = pwF mi (plM sw st b r sc fi mi fa T (k + 1)) n := by
  funext g
  by_cases h : g < n
  · rw [pwF_lt h, pwF_lt h]; unfold plM; simp only [pwF_lt h]; rfl
  · rw [pwF_at (by omega), pwF_at (by omega), pwF_at (by omega)]
theorem pl_sA : pwF (pwF fa (plA sw st b r sc fi mi fa T k) n) (plA sw st b r (pwF sc (plS sw st b r sc fi mi fa T k) n) (pwF fi (plF sw st b r sc fi mi fa T k) n) (pwF mi (plM sw st b r sc fi mi fa T k) n) (pwF fa (plA sw st b r sc fi mi fa T k) n) (T + k) 1) n = pwF fa (plA sw st b r sc fi mi fa T (k + 1)) n := by
  funext g
  by_cases h : g < n
  · rw [pwF_lt h, pwF_lt h]; unfold plA; simp only [pwF_lt h]; rfl
  · rw [pwF_at (by omega), pwF_at (by omega), pwF_at (by omega)]
end PL
theorem ring4 (a b x y : Int32) : (a - b) + (x - y) = (a + x) - (b + y) := by
  rw [Int32.sub_eq_add_neg, Int32.sub_eq_add_neg, Int32.sub_eq_add_neg, Int32.neg_add, Int32.sub_eq_add_neg]
  ac_rfl
theorem smF_cong {f g : Nat → Int32} : ∀ {n : Nat}, (∀ j, j < n → f j = g j) → smF f n = smF g n
  | 0, _ => rfl
  | n + 1, e => by rw [smF, smF, smF_cong (fun j hj => e j (by omega)), e n (by omega)]
theorem smF_sub (f g : Nat → Int32) : ∀ n : Nat, smF (fun zj => f zj - g zj) n = smF f n - smF g n
  | 0 => by
    show nI 0 = nI 0 - nI 0
    decide
  | n + 1 => by rw [smF, smF, smF, smF_sub f g n, ring4]
/-- a set of guns as bits -/
def mkF (p : Nat → Bool) : Nat → Nat
  | 0 => 0
  | k + 1 => mkF p k + (if p k = true then 2 ^ k else 0)
theorem mkF_lt (p : Nat → Bool) : ∀ k, mkF p k < 2 ^ k
  | 0 => Nat.one_pos
  | k + 1 => by
    have h := mkF_lt p k
    unfold mkF
    rw [Nat.pow_succ]
    generalize 2 ^ k = P at *
    split <;> omega
theorem mkF_64 (p : Nat → Bool) {n : Nat} (h : n ≤ 6) : mkF p n < 64 := by
  have h1 := mkF_lt p n
  have h2 : 2 ^ n ≤ 2 ^ 6 := Nat.pow_le_pow_right (by decide) h
  omega
theorem mkF_cong {p q : Nat → Bool} : ∀ {n : Nat}, (∀ g, g < n → p g = q g) → mkF p n = mkF q n
  | 0, _ => rfl
  | n + 1, e => by rw [mkF, mkF, mkF_cong (fun g hg => e g (by omega)), e n (by omega)]
set_option maxRecDepth 20000 in
theorem or_bit0 : ∀ i, i < 6 → ∀ m, m < 2 ^ i → nI m ||| (nI 1 <<< (nI i &&& 31)) = nI (m + 2 ^ i) := by decide +kernel
theorem or_bit (p : Nat → Bool) {i : Nat} (h : i < 6) : nI (mkF p i) ||| (nI 1 <<< (nI i &&& 31)) = nI (mkF p i + 2 ^ i) := or_bit0 i h _ (mkF_lt p i)
def pcF (m : Nat) : Nat := m % 2 + m / 2 % 2 + m / 4 % 2 + m / 8 % 2 + m / 16 % 2 + m / 32 % 2
def tzF (m : Nat) : Nat := if m % 2 = 1 then 0 else if m / 2 % 2 = 1 then 1 else if m / 4 % 2 = 1 then 2 else if m / 8 % 2 = 1 then 3 else if m / 16 % 2 = 1 then 4 else 5
set_option maxHeartbeats 4000000 in
theorem pc_ok (p : Nat → Bool) {n : Nat} (hn : n ≤ 6) : ctF p n = pcF (mkF p n) := by
  rcases (show n = 0 ∨ n = 1 ∨ n = 2 ∨ n = 3 ∨ n = 4 ∨ n = 5 ∨ n = 6 by omega) with rfl | rfl | rfl | rfl | rfl | rfl | rfl
  · simp [ctF, mkF, pcF]
  · cases h0 : p 0 <;> simp [ctF, mkF, pcF, h0]
  · cases h0 : p 0 <;> cases h1 : p 1 <;> simp [ctF, mkF, pcF, h0, h1]
  · cases h0 : p 0 <;> cases h1 : p 1 <;> cases h2 : p 2 <;> simp [ctF, mkF, pcF, h0, h1, h2]
  · cases h0 : p 0 <;> cases h1 : p 1 <;> cases h2 : p 2 <;> cases h3 : p 3 <;> simp [ctF, mkF, pcF, h0, h1, h2, h3]
  · cases h0 : p 0 <;> cases h1 : p 1 <;> cases h2 : p 2 <;> cases h3 : p 3 <;> cases h4 : p 4 <;> simp [ctF, mkF, pcF, h0, h1, h2, h3, h4]
  · cases h0 : p 0 <;> cases h1 : p 1 <;> cases h2 : p 2 <;> cases h3 : p 3 <;> cases h4 : p 4 <;> cases h5 : p 5 <;> simp [ctF, mkF, pcF, h0, h1, h2, h3, h4, h5]
set_option maxHeartbeats 4000000 in
theorem tz_ok (p : Nat → Bool) {n : Nat} (hn : n ≤ 6) (hx : fiN p n < n) : fiN p n = tzF (mkF p n) := by
  rcases (show n = 0 ∨ n = 1 ∨ n = 2 ∨ n = 3 ∨ n = 4 ∨ n = 5 ∨ n = 6 by omega) with rfl | rfl | rfl | rfl | rfl | rfl | rfl
  · exact absurd hx (Nat.not_lt_zero _)
  · cases h0 : p 0 <;> simp [fiN, mkF, tzF, h0] at hx ⊢
  · cases h0 : p 0 <;> cases h1 : p 1 <;> simp [fiN, mkF, tzF, h0, h1] at hx ⊢
  · cases h0 : p 0 <;> cases h1 : p 1 <;> cases h2 : p 2 <;> simp [fiN, mkF, tzF, h0, h1, h2] at hx ⊢
  · cases h0 : p 0 <;> cases h1 : p 1 <;> cases h2 : p 2 <;> cases h3 : p 3 <;> simp [fiN, mkF, tzF, h0, h1, h2, h3] at hx ⊢
  · cases h0 : p 0 <;> cases h1 : p 1 <;> cases h2 : p 2 <;> cases h3 : p 3 <;> cases h4 : p 4 <;> simp [fiN, mkF, tzF, h0, h1, h2, h3, h4] at hx ⊢
  · cases h0 : p 0 <;> cases h1 : p 1 <;> cases h2 : p 2 <;> cases h3 : p 3 <;> cases h4 : p 4 <;> cases h5 : p 5 <;> simp [fiN, mkF, tzF, h0, h1, h2, h3, h4, h5] at hx ⊢
theorem mk_pos {p : Nat → Bool} {n : Nat} (hx : fiN p n < n) : mkF p n ≠ 0 := by
  have h1 : ∀ m g, g < m → p g = true → mkF p m ≠ 0 := by
    intro m
    induction m with
    | zero => intro g hg _; exact absurd hg (Nat.not_lt_zero _)
    | succ m ih =>
      intro g hg hp
      unfold mkF
      by_cases e : g = m
      · subst e
        rw [if_pos hp]
        have : 0 < 2 ^ g := Nat.two_pow_pos g
        omega
      · have := ih g (by omega) hp
        omega
  exact h1 n _ hx (fiN_at hx)
theorem bit_mk0 : ∀ g, g < 6 → ∀ m, m < 64 → (nI m >>> (nI g &&& 31)) &&& nI 1 = nI (m / 2 ^ g % 2) := by decide +kernel
theorem mk_bit (p : Nat → Bool) : ∀ (n g : Nat), g < n → mkF p n / 2 ^ g % 2 = if p g = true then 1 else 0
  | 0, g, h => absurd h (Nat.not_lt_zero _)
  | n + 1, g, h => by
    by_cases e : g = n
    · subst e
      unfold mkF
      have h1 := mkF_lt p g
      by_cases hp : p g = true
      · rw [if_pos hp, if_pos hp, Nat.add_div_right _ (Nat.two_pow_pos g), Nat.div_eq_of_lt h1]
      · rw [if_neg hp, if_neg hp, Nat.add_zero, Nat.div_eq_of_lt h1]
    · have ih := mk_bit p n g (by omega)
      rw [← ih]
      show (mkF p n + (if p n = true then 2 ^ n else 0)) / 2 ^ g % 2 = _
      by_cases hp : p n = true
      · rw [if_pos hp, show 2 ^ n = 2 ^ g * (2 * 2 ^ (n - g - 1)) by rw [← Nat.pow_succ', ← Nat.pow_add]; congr 1; omega, Nat.add_mul_div_left _ _ (Nat.two_pow_pos g), Nat.add_mul_mod_self_left]
      · rw [if_neg hp, Nat.add_zero]
theorem bit_mk (p : Nat → Bool) {n g : Nat} (hn : n ≤ 6) (hg : g < n) : (nI (mkF p n) >>> (nI g &&& 31)) &&& nI 1 = bN (p g) := by
  rw [bit_mk0 g (by omega) _ (mkF_64 p hn), mk_bit p n g hg]
  unfold bN
  split <;> rfl
theorem mk_an {h : Nat → Bool} : ∀ {n : Nat}, mkF h n = 0 ↔ anB h n = false
  | 0 => ⟨fun _ => rfl, fun _ => rfl⟩
  | n + 1 => by
    unfold mkF anB
    have := @mk_an h n
    have h2 : 0 < 2 ^ n := Nat.two_pow_pos n
    cases hh : h n
    · simp [this]
    · simp
theorem pwF_wp {α : Type} {f g h : Nat → α} {n : Nat} : pwF (pwF f g n) h n = pwF f h n := by
  funext j
  unfold pwF
  by_cases e : j < n <;> simp [e]
theorem nI_z {m : Nat} (h : m < 64) : nI m = 0 ↔ m = 0 := by
  rw [← nI_0]
  exact nI_eq (by omega) (by decide)
theorem mk_so1 {sw st fa : Nat → Int32} {lf : Nat → Bool} {n : Nat} {am : Int32} (h : ¬ mkF (htB sw st fa lf am) n = 0) : mkF (soL sw st fa lf n am) n = mkF (htB sw st fa lf am) n := by
  have h1 : anB (htB sw st fa lf am) n = true := by
    cases hh : anB (htB sw st fa lf am) n
    · exact absurd (mk_an.mpr hh) h
    · rfl
  unfold soL
  rw [if_pos h1]
  exact mkF_cong (fun g hg => pwF_lt hg)
theorem mk_so0 {sw st fa : Nat → Int32} {lf : Nat → Bool} {n : Nat} {am : Int32} (h : mkF (htB sw st fa lf am) n = 0) : mkF (soL sw st fa lf n am) n = mkF lf n := by
  have h1 := mk_an.mp h
  unfold soL
  rw [if_neg (by rw [h1]; decide)]
