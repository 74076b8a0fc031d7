/-! pools: rows in any number -/
def wP (ad : Nat → Nat) (cI : ClassId) (w : Nat) (F : Nat → Nat → Int32) (n : Nat) : va_W := (List.range n).map (fun g => (ad g, .inl (cI, w, .inl (F g))))
def updP (F : Nat → Nat → Int32) (g : Nat) (f : Nat → Int32) : Nat → Nat → Int32 := fun j => if j = g then f else F j
def updA (ad : Nat → Nat) (g q : Nat) : Nat → Nat := fun j => if j = g then q else ad j
/-- a row of an array of references: the first n are there -/
def rfF (ad : Nat → Nat) (n : Nat) : Nat → Option Nat := fun g => if g < n then some (ad g) else none
theorem rfF_at {ad : Nat → Nat} {n g : Nat} (h : g < n) : rfF ad n g = some (ad g) := if_pos h
theorem rfF_0 {ad : Nat → Nat} : (fun _ => none : Nat → Option Nat) = rfF ad 0 := by
  funext g
  simp [rfF]
theorem rfF_put {ad : Nat → Nat} {n q : Nat} : va_up (rfF ad n) n (some q) = rfF (updA ad n q) (n + 1) := by
  funext g
  unfold va_up rfF updA
  by_cases h : g = n
  · subst h; simp
  · by_cases h2 : g < n
    · simp [h, h2, Nat.lt_succ_of_lt h2]
    · simp [h, h2, show ¬ g < n + 1 by omega]
theorem rfF_s {ad : Nat → Nat} {n : Nat} : va_up (rfF ad n) n (some (ad n)) = rfF ad (n + 1) := by
  funext g
  unfold va_up rfF
  by_cases h : g = n
  · subst h; simp
  · by_cases h2 : g < n
    · simp [h, h2, Nat.lt_succ_of_lt h2]
    · simp [h, h2, show ¬ g < n + 1 by omega]
theorem rfF_set {ad : Nat → Nat} {n g q : Nat} (hg : g < n) : va_up (rfF ad n) g (some q) = rfF (updA ad g q) n := by
  funext j
  unfold va_up rfF updA
  by_cases h : j = g
  · subst h; simp [hg]
  · simp [h]
theorem wP_get {ad : Nat → Nat} {cI : ClassId} {w n g : Nat} {F : Nat → Nat → Int32} (hg : g < n) : (wP ad cI w F n)[g]? = some (ad g, .inl (cI, w, .inl (F g))) := by
  unfold wP
  rw [List.getElem?_map, List.getElem?_range hg]
  rfl
theorem wP_len {ad : Nat → Nat} {cI : ClassId} {w n : Nat} {F : Nat → Nat → Int32} : (wP ad cI w F n).length = n := by
  unfold wP
  simp
theorem wP_set {ad : Nat → Nat} {cI : ClassId} {w n g : Nat} {F : Nat → Nat → Int32} {f : Nat → Int32} (hg : g < n) : (wP ad cI w F n).set g (ad g, .inl (cI, w, .inl f)) = wP ad cI w (updP F g f) n := by
  apply List.ext_getElem?
  intro i
  by_cases hi : i < n
  · rw [wP_get hi]
    by_cases h : i = g
    · subst h
      rw [List.getElem?_set_self (by rw [wP_len]; exact hi)]
      simp [updP]
    · rw [List.getElem?_set_ne (Ne.symm h), wP_get hi]
      simp [updP, h]
  · rw [List.getElem?_eq_none (by rw [List.length_set, wP_len]; omega), List.getElem?_eq_none (by rw [wP_len]; omega)]
theorem wP_congr {ad ad' : Nat → Nat} {cI : ClassId} {w n : Nat} {F F' : Nat → Nat → Int32} (h1 : ∀ g, g < n → ad g = ad' g) (h2 : ∀ g, g < n → F g = F' g) : wP ad cI w F n = wP ad' cI w F' n := by
  unfold wP
  refine List.map_congr_left (fun g hg => ?_)
  have hg := List.mem_range.mp hg
  rw [h1 g hg, h2 g hg]
theorem wP_push {ad : Nat → Nat} {cI : ClassId} {w n q : Nat} {F : Nat → Nat → Int32} {f : Nat → Int32} : wP ad cI w F n ++ [(q, .inl (cI, w, .inl f))] = wP (updA ad n q) cI w (updP F n f) (n + 1) := by
  have e : wP (updA ad n q) cI w (updP F n f) (n + 1) = wP (updA ad n q) cI w (updP F n f) n ++ [(updA ad n q n, .inl (cI, w, .inl (updP F n f n)))] := by
    unfold wP
    rw [List.range_succ, List.map_append]
    rfl
  rw [e, wP_congr (ad' := updA ad n q) (F' := updP F n f) (fun g hg => (if_neg (Nat.ne_of_lt hg)).symm) (fun g hg => (if_neg (Nat.ne_of_lt hg)).symm)]
  simp [updA, updP]
/-- the rows of guns; the rows of traps -/
def gR (sw st fa sc fi mi : Nat → Int32) : Nat → Nat → Int32 := fun g k => match k with
  | 0 => sw g
  | 1 => st g
  | 2 => fa g
  | 3 => sc g
  | 4 => fi g
  | 5 => mi g
  | _ => nI 0
def tR (b r : Nat → Int32) : Nat → Nat → Int32 := fun g k => match k with
  | 0 => b g
  | 1 => r g
  | _ => nI 0
section GR
variable {sw st fa sc fi mi b r : Nat → Int32} {g : Nat} {v : Int32}
theorem gR_2 : updP (gR sw st fa sc fi mi) g (upd (gR sw st fa sc fi mi g) 2 v) = gR sw st (upd fa g v) sc fi mi := by
  funext j k
  unfold updP upd gR
  by_cases h : j = g
  · subst h
    match k with
    | 0 => simp
    | 1 => simp
    | 2 => simp
    | 3 => simp
    | 4 => simp
    | 5 => simp
    | k + 6 => simp
  · simp [h]
theorem gR_3 : updP (gR sw st fa sc fi mi) g (upd (gR sw st fa sc fi mi g) 3 v) = gR sw st fa (upd sc g v) fi mi := by
  funext j k
  unfold updP upd gR
  by_cases h : j = g
  · subst h
    match k with
    | 0 => simp
    | 1 => simp
    | 2 => simp
    | 3 => simp
    | 4 => simp
    | 5 => simp
    | k + 6 => simp
  · simp [h]
theorem gR_4 : updP (gR sw st fa sc fi mi) g (upd (gR sw st fa sc fi mi g) 4 v) = gR sw st fa sc (upd fi g v) mi := by
  funext j k
  unfold updP upd gR
  by_cases h : j = g
  · subst h
    match k with
    | 0 => simp
    | 1 => simp
    | 2 => simp
    | 3 => simp
    | 4 => simp
    | 5 => simp
    | k + 6 => simp
  · simp [h]
theorem gR_5 : updP (gR sw st fa sc fi mi) g (upd (gR sw st fa sc fi mi g) 5 v) = gR sw st fa sc fi (upd mi g v) := by
  funext j k
  unfold updP upd gR
  by_cases h : j = g
  · subst h
    match k with
    | 0 => simp
    | 1 => simp
    | 2 => simp
    | 3 => simp
    | 4 => simp
    | 5 => simp
    | k + 6 => simp
  · simp [h]
end GR
/-! a world's cell, and the world with another one in its place -/
def MW (ws : va_W) (q : Nat × va_E) : Prop := ∃ p : Nat, ws[p]? = some q
def PW (ws : va_W) (q x : Nat × va_E) (ws2 : va_W) : Prop := ∃ p : Nat, ws[p]? = some q ∧ ws.set p x = ws2
theorem MW.at {ws : va_W} {q : Nat × va_E} (p : Nat) (h : ws[p]? = some q) : MW ws q := ⟨p, h⟩
theorem MW.l {ws m : va_W} {q : Nat × va_E} (h : MW ws q) : MW (ws ++ m) q := by
  obtain ⟨p, h1⟩ := h
  exact ⟨p, by rw [List.getElem?_append_left (List.getElem?_eq_some_iff.mp h1).1]; exact h1⟩
theorem MW.r {ws m : va_W} {q : Nat × va_E} (h : MW m q) : MW (ws ++ m) q := by
  obtain ⟨p, h1⟩ := h
  exact ⟨ws.length + p, by rw [List.getElem?_append_right (by omega), Nat.add_sub_cancel_left]; exact h1⟩
theorem MW.pool {ad : Nat → Nat} {cI : ClassId} {w n : Nat} {F : Nat → Nat → Int32} (g : Nat) (hg : g < n) : MW (wP ad cI w F n) (ad g, .inl (cI, w, .inl (F g))) := ⟨g, wP_get hg⟩
theorem PW.at {ws ws2 : va_W} {q x : Nat × va_E} (p : Nat) (h : ws[p]? = some q) (h2 : ws.set p x = ws2) : PW ws q x ws2 := ⟨p, h, h2⟩
theorem PW.l {ws ws2 m : va_W} {q x : Nat × va_E} (h : PW ws q x ws2) : PW (ws ++ m) q x (ws2 ++ m) := by
  obtain ⟨p, h1, h2⟩ := h
  have hp := (List.getElem?_eq_some_iff.mp h1).1
  exact ⟨p, by rw [List.getElem?_append_left hp]; exact h1, by rw [List.set_append_left _ _ hp, h2]⟩
theorem PW.r {ws m m2 : va_W} {q x : Nat × va_E} (h : PW m q x m2) : PW (ws ++ m) q x (ws ++ m2) := by
  obtain ⟨p, h1, h2⟩ := h
  refine ⟨ws.length + p, by rw [List.getElem?_append_right (by omega), Nat.add_sub_cancel_left]; exact h1, ?_⟩
  rw [List.set_append_right _ _ (by omega), Nat.add_sub_cancel_left, h2]
theorem PW.pool {ad : Nat → Nat} {cI : ClassId} {w n : Nat} {F F' : Nat → Nat → Int32} {f : Nat → Int32} (g : Nat) (hg : g < n) (hF : updP F g f = F') : PW (wP ad cI w F n) (ad g, .inl (cI, w, .inl (F g))) (ad g, .inl (cI, w, .inl f)) (wP ad cI w F' n) := ⟨g, wP_get hg, by rw [wP_set hg, hF]⟩
/-! worlds as blocks -/
def catL : List va_W → va_W
  | [] => []
  | b :: bs => bs.foldl (· ++ ·) b
theorem fold_cat (b : va_W) (bs : List va_W) : bs.foldl (· ++ ·) b = b ++ bs.flatten := by
  induction bs generalizing b with
  | nil => simp
  | cons x xs ih => rw [List.foldl_cons, ih, List.flatten_cons, List.append_assoc]
theorem catL_eq (B : List va_W) : catL B = B.flatten := by
  cases B with
  | nil => rfl
  | cons b bs => rw [List.flatten_cons]; exact fold_cat b bs
theorem perm_flat {α : Type} {a b : List (List α)} (h : a.Perm b) : a.flatten.Perm b.flatten := by
  induction h with
  | nil => exact List.Perm.refl _
  | cons x _ ih => rw [List.flatten_cons, List.flatten_cons]; exact List.Perm.append_left x ih
  | swap x y l =>
    simp only [List.flatten_cons]
    rw [← List.append_assoc, ← List.append_assoc]
    exact List.Perm.append_right _ List.perm_append_comm
  | trans _ _ h1 h2 => exact h1.trans h2
theorem fm_map {α β : Type} (f : α → Option β) : ∀ (is : List α) (w : List β), is.map f = w.map some → is.filterMap f = w
  | [], [], _ => rfl
  | [], b :: w, h => by simp at h
  | i :: is, [], h => by simp at h
  | i :: is, b :: w, h => by
    simp only [List.map_cons, List.cons.injEq] at h
    rw [List.filterMap_cons, h.1]
    simp only [fm_map f is w h.2]
theorem range_get {α : Type} (B : List α) : (List.range B.length).map (fun i => B[i]?) = B.map some := by
  apply List.ext_getElem?
  intro i
  by_cases h : i < B.length
  · rw [List.getElem?_map, List.getElem?_range h, List.getElem?_map, List.getElem?_eq_getElem h]
    simp [h]
  · rw [List.getElem?_eq_none (by simpa using h), List.getElem?_eq_none (by simpa using h)]
theorem catL_perm (B : List va_W) (is js : List Nat) {Bi Bj : List va_W} (hi : is.map (fun i => B[i]?) = Bi.map some) (hj : js.map (fun i => B[i]?) = Bj.map some) (hp : (is ++ js).Perm (List.range B.length)) : (catL B).Perm (catL Bi ++ catL Bj) := by
  have e1 := fm_map _ _ _ (range_get B)
  have e2 : (is ++ js).filterMap (fun i => B[i]?) = Bi ++ Bj := by rw [List.filterMap_append, fm_map _ _ _ hi, fm_map _ _ _ hj]
  have h := (hp.filterMap (fun i => B[i]?)).symm
  rw [e1, e2] at h
  rw [catL_eq, catL_eq, catL_eq, ← List.flatten_append]
  exact perm_flat h
theorem wnodup {ws : va_W} (h : ∀ (i j : Nat) (p q : Nat × va_E), ws[i]? = some p → ws[j]? = some q → p.1 = q.1 → i = j) : (ws.map Prod.fst).Nodup := by
  rw [List.Nodup, List.pairwise_iff_getElem]
  intro i j hi hj hij heq
  rw [List.length_map] at hi hj
  simp only [List.getElem_map] at heq
  have := h i j _ _ (List.getElem?_eq_getElem hi) (List.getElem?_eq_getElem hj) heq
  omega
theorem winj {ws : va_W} (h : (ws.map Prod.fst).Nodup) : ∀ (i j : Nat) (p q : Nat × va_E), ws[i]? = some p → ws[j]? = some q → p.1 = q.1 → i = j := by
  intro i j p q hi hj e
  rw [List.Nodup, List.pairwise_iff_getElem] at h
  obtain ⟨hi', rfl⟩ := List.getElem?_eq_some_iff.mp hi
  obtain ⟨hj', rfl⟩ := List.getElem?_eq_some_iff.mp hj
  rcases Nat.lt_trichotomy i j with c | c | c
  · exact absurd (by rw [List.getElem_map, List.getElem_map]; exact e) (h i j (by simpa using hi') (by simpa using hj') c)
  · exact c
  · exact absurd (by rw [List.getElem_map, List.getElem_map]; exact e.symm) (h j i (by simpa using hj') (by simpa using hi') c)
theorem wP_perm {G : va_G} {ws ws' : va_W} {H : Heap} (h : va_P G vwCl ws H) (hp : ws.Perm ws') : va_P G vwCl ws' H := by
  intro k q hk
  obtain ⟨i, hi⟩ := List.getElem?_of_mem (hp.mem_iff.mpr (List.mem_of_getElem? hk))
  exact h i q hi
theorem wD_perm {A : Nat → Prop} {ws ws' : va_W} (h : va_D A ws) (hp : ws.Perm ws') : va_D A ws' := by
  refine ⟨winj ((hp.map Prod.fst).nodup (wnodup h.1)), fun k q hk => ?_⟩
  obtain ⟨i, hi⟩ := List.getElem?_of_mem (hp.mem_iff.mpr (List.mem_of_getElem? hk))
  exact h.2 i q hi
theorem wl {a b : va_W} {k : Nat} {q : Nat × va_E} (h : a[k]? = some q) : (a ++ b)[k]? = some q := by rw [List.getElem?_append_left (List.getElem?_eq_some_iff.mp h).1]; exact h
theorem wr {a b : va_W} {k : Nat} {q : Nat × va_E} (h : b[k]? = some q) : (a ++ b)[a.length + k]? = some q := by rw [List.getElem?_append_right (by omega), Nat.add_sub_cancel_left]; exact h
theorem wcases {a b : va_W} {k : Nat} {q : Nat × va_E} (h : (a ++ b)[k]? = some q) : (k < a.length ∧ a[k]? = some q) ∨ (a.length ≤ k ∧ b[k - a.length]? = some q) := by
  by_cases hl : k < a.length
  · rw [List.getElem?_append_left hl] at h; exact Or.inl ⟨hl, h⟩
  · rw [List.getElem?_append_right (by omega)] at h; exact Or.inr ⟨by omega, h⟩
theorem wP_left {G : va_G} {a b : va_W} {H : Heap} (h : va_P G vwCl (a ++ b) H) : va_P G vwCl a H := fun k q hk => h k q (wl hk)
theorem wD_left {A : Nat → Prop} {a b : va_W} (h : va_D A (a ++ b)) : va_D A a := ⟨fun i j p q hi hj => h.1 i j p q (wl hi) (wl hj), fun k q hk => h.2 k q (wl hk)⟩
theorem wfree {A : Nat → Prop} {W0 WF : va_W} {H0 H : Heap} {locs : List Loc} (hD : va_D A (W0 ++ WF)) (hS : va_S A H0 H locs) (hA : ∀ q, H0.size ≤ q → A q) : ∀ q, va_A W0 H.size q → A q := by
  intro q h
  rcases h with ⟨k, e, h⟩ | h
  · exact hD.2 k (q, e) (wl h)
  · exact hA q (Nat.le_trans hS.1 h)
theorem wpj {A : Nat → Prop} {G : va_G} {W0 WF W1 : va_W} {H H1 : Heap} (hP : va_P G vwCl (W0 ++ WF) H) (hD : va_D A (W0 ++ WF)) (hk : ∀ q : Nat, q < H.size → ¬ va_A W0 H.size q → H1[q]? = H[q]?) (hF : ∀ q, va_A W0 H.size q → A q) (hP1 : va_P G vwCl W1 H1) (hD1 : va_D (va_A W0 H.size) W1) : va_P G vwCl (W1 ++ WF) H1 ∧ va_D A (W1 ++ WF) := by
  have apart : ∀ (k : Nat) (q : Nat × va_E), WF[k]? = some q → q.1 < H.size ∧ ¬ va_A W0 H.size q.1 := by
    intro k q hq
    have hl := (hP _ q (wr hq)).lt
    refine ⟨hl, fun h => ?_⟩
    rcases h with ⟨k2, e, h⟩ | h
    · have h3 := hD.1 _ _ q (q.1, e) (wr hq) (wl h) rfl
      have h4 := (List.getElem?_eq_some_iff.mp h).1
      omega
    · omega
  refine ⟨fun k q hk9 => ?_, fun i j x y hi hj hxy => ?_, fun k q hk9 => ?_⟩
  · rcases wcases hk9 with ⟨-, h⟩ | ⟨-, h⟩
    · exact hP1 k q h
    · obtain ⟨g1, g2⟩ := apart _ q h
      exact (hP _ q (wr h)).kept (hk q.1 g1 g2)
  · rcases wcases hi with ⟨-, h1⟩ | ⟨g1, h1⟩ <;> rcases wcases hj with ⟨-, h2⟩ | ⟨g2, h2⟩
    · exact hD1.1 i j x y h1 h2 hxy
    · exact absurd (by rw [← hxy]; exact hD1.2 i x h1) (apart _ y h2).2
    · exact absurd (by rw [hxy]; exact hD1.2 j y h2) (apart _ x h1).2
    · have := hD.1 _ _ x y (wr h1) (wr h2) hxy
      omega
  · rcases wcases hk9 with ⟨-, h⟩ | ⟨-, h⟩
    · exact hF _ (hD1.2 k q h)
    · exact hD.2 _ q (wr h)

section YR
variable {p : Program} {l : Launch} {e : Env} {R : Room} {s : State} {m : MethodId} {args : Array Value} {below : List Frame} {meth : Method} {c : Code} {cc : ByteArray} {nL : Nat} {own : String} {G : va_G} {tys : List (ClassId × FieldType)} {A : Nat → Prop} {cells slots : Nat} {Q : State → Prop} {ws : va_W} {lv : List (Nat × Value)} {pc n : Nat} {rest : List Value}
theorem y_perm {ws' : va_W} (WF : va_W) (hp : ws.Perm (ws' ++ WF)) {st : List Value} (k : ZZ p l e R s m args below meth c G A nL cells slots Q ws' lv pc st) : ZZ p l e R s m args below meth c G A nL cells slots Q ws lv pc st :=
  fun H locs ls hP hD hS hl => k H locs ls (wP_left (wP_perm hP hp)) (wD_left (wD_perm hD hp)) hS hl
theorem y_get (hC : Cx p s m args c cc nL own G tys A) {C : String} {T : u_T} {N ci index : Nat} (f : Nat) (hin : ∀ w ∈ u_ws C T N, w ∈ zAW) (hc : vwCl[ci]? = some (C, T, N)) (hf : f < N) (hlink : Cond.fieldLink own index (T f).1 (T f).2.1 (T f).2.2.1 ∈ zAW) {a : Nat} {fs : List Value} {v : Value} (he : MW ws (a, .inr (ci, fs))) (hv : fs[f]? = some v) (hdg : decode cc pc = .ok (.getfield index, 3)) (hn : pc + 3 = n) (k : ZZ p l e R s m args below meth c G A nL cells slots Q ws lv n (v :: rest)) : ZZ p l e R s m args below meth c G A nL cells slots Q ws lv pc (.ref a :: rest) := by
  obtain ⟨q0, h0⟩ := he
  exact z_get hC f hin hc hf hlink q0 h0 hv hdg hn k
theorem y_put (hC : Cx p s m args c cc nL own G tys A) {C : String} {T : u_T} {N ci index : Nat} (f : Nat) (hin : ∀ w ∈ u_ws C T N, w ∈ zAW) (ty0 : Nat → FieldType) (hty : ∀ k, k < N → parseFieldDescriptor (T k).2.2.1 = some (ty0 k)) (hnm : ∀ a, a < N → ∀ b, b < N → a ≠ b → (T a).2.1 ≠ (T b).2.1) (hc : vwCl[ci]? = some (C, T, N)) (hf : f < N) (hlink : Cond.fieldLink own index (T f).1 (T f).2.1 (T f).2.2.1 ∈ zAW) (hfin : (T f).2.2.2 = false) (hd : parseFieldDescriptor (T f).2.2.1 = some .int) {a : Nat} {fs : List Value} {v : Int32} {ws' : va_W} (hl9 : f < fs.length) (hw : PW ws (a, .inr (ci, fs)) (a, .inr (ci, fs.set f (.int v))) ws') (hdg : decode cc pc = .ok (.putfield index, 3)) (hn : pc + 3 = n) (k : ZZ p l e R s m args below meth c G A nL cells slots Q ws' lv n rest) : ZZ p l e R s m args below meth c G A nL cells slots Q ws lv pc (.int v :: .ref a :: rest) := by
  obtain ⟨q0, h0, h1⟩ := hw
  exact z_put hC f hin ty0 hty hnm hc hf hlink hfin hd q0 h0 hl9 hdg h1 hn k
theorem y_putq (hC : Cx p s m args c cc nL own G tys A) {C : String} {T : u_T} {N ci index : Nat} (f : Nat) (hin : ∀ w ∈ u_ws C T N, w ∈ zAW) (ty0 : Nat → FieldType) (hty : ∀ k, k < N → parseFieldDescriptor (T k).2.2.1 = some (ty0 k)) (hnm : ∀ a, a < N → ∀ b, b < N → a ≠ b → (T a).2.1 ≠ (T b).2.1) (hc : vwCl[ci]? = some (C, T, N)) (hf : f < N) (hlink : Cond.fieldLink own index (T f).1 (T f).2.1 (T f).2.2.1 ∈ zAW) (hfin : (T f).2.2.2 = false) {ty : FieldType} (hd : parseFieldDescriptor (T f).2.2.1 = some ty) {a : Nat} {fs : List Value} {v : Nat} (hnr : narrow ty (.ref v) = .ref v) (hfit : fits ty (.ref v) = true) {ws' : va_W} (hl9 : f < fs.length) (hw : PW ws (a, .inr (ci, fs)) (a, .inr (ci, fs.set f (.ref v))) ws') (hdg : decode cc pc = .ok (.putfield index, 3)) (hn : pc + 3 = n) (k : ZZ p l e R s m args below meth c G A nL cells slots Q ws' lv n rest) : ZZ p l e R s m args below meth c G A nL cells slots Q ws lv pc (.ref v :: .ref a :: rest) := by
  obtain ⟨q0, h0, h1⟩ := hw
  exact z_putq hC f hin ty0 hty hnm hc hf hlink hfin hd q0 hnr hfit h0 hl9 hdg h1 hn k
theorem y_iald (hC : Cx p s m args c cc nL own G tys A) (t0 : Nat) {a : Nat} {cA : ClassId} {N : Nat} {f : Nat → Int32} (j : Nat) {x v : Int32} (ha : MW ws (a, .inl (cA, N, .inl f))) (ht : tys[t0]? = some (cA, .int)) (hx : x = nI j) (hj : j < N) (hN : N < 2 ^ 31) (hdg : decode cc pc = .ok (.iaload, 1)) (hv : f j = v) (hn : pc + 1 = n) (k : ZZ p l e R s m args below meth c G A nL cells slots Q ws lv n (.int v :: rest)) : ZZ p l e R s m args below meth c G A nL cells slots Q ws lv pc (.int x :: .ref a :: rest) := by
  obtain ⟨q0, h0⟩ := ha
  exact z_iald hC q0 t0 j h0 ht hx hj hN hdg hv hn k
theorem y_zald (hC : Cx p s m args c cc nL own G tys A) (t0 : Nat) {a : Nat} {cA : ClassId} {N : Nat} {f : Nat → Int32} (j : Nat) {x v : Int32} (ha : MW ws (a, .inl (cA, N, .inl f))) (ht : tys[t0]? = some (cA, .boolean)) (hx : x = nI j) (hj : j < N) (hN : N < 2 ^ 31) (hdg : decode cc pc = .ok (.baload, 1)) (hv : f j = v) (hn : pc + 1 = n) (k : ZZ p l e R s m args below meth c G A nL cells slots Q ws lv n (.int v :: rest)) : ZZ p l e R s m args below meth c G A nL cells slots Q ws lv pc (.int x :: .ref a :: rest) := by
  obtain ⟨q0, h0⟩ := ha
  exact z_zald hC q0 t0 j h0 ht hx hj hN hdg hv hn k
theorem y_iast (hC : Cx p s m args c cc nL own G tys A) (t0 : Nat) {a : Nat} {cA : ClassId} {N : Nat} {f : Nat → Int32} (j : Nat) {x v : Int32} {f' : Nat → Int32} {ws' : va_W} (ht : tys[t0]? = some (cA, .int)) (hx : x = nI j) (hj : j < N) (hN : N < 2 ^ 31) (hdg : decode cc pc = .ok (.iastore, 1)) (hf : upd f j v = f') (hw : PW ws (a, .inl (cA, N, .inl f)) (a, .inl (cA, N, .inl f')) ws') (hn : pc + 1 = n) (k : ZZ p l e R s m args below meth c G A nL cells slots Q ws' lv n rest) : ZZ p l e R s m args below meth c G A nL cells slots Q ws lv pc (.int v :: .int x :: .ref a :: rest) := by
  obtain ⟨q0, h0, h1⟩ := hw
  exact z_iast hC q0 t0 j h0 ht hx hj hN hdg hf h1 hn k
theorem y_zast (hC : Cx p s m args c cc nL own G tys A) (t0 : Nat) {a : Nat} {cA : ClassId} {N : Nat} {f : Nat → Int32} (j : Nat) {x v : Int32} {f' : Nat → Int32} {ws' : va_W} (ht : tys[t0]? = some (cA, .boolean)) (hx : x = nI j) (hj : j < N) (hN : N < 2 ^ 31) (hv : vp_nar .boolean v = v) (hdg : decode cc pc = .ok (.bastore, 1)) (hf : upd f j v = f') (hw : PW ws (a, .inl (cA, N, .inl f)) (a, .inl (cA, N, .inl f')) ws') (hn : pc + 1 = n) (k : ZZ p l e R s m args below meth c G A nL cells slots Q ws' lv n rest) : ZZ p l e R s m args below meth c G A nL cells slots Q ws lv pc (.int v :: .int x :: .ref a :: rest) := by
  obtain ⟨q0, h0, h1⟩ := hw
  exact z_zast hC q0 t0 j h0 ht hx hj hN hv hdg hf h1 hn k
theorem y_alen (hC : Cx p s m args c cc nL own G tys A) (t0 : Nat) {a : Nat} {cA : ClassId} {x : vp_A} {ty : FieldType} {v : Int32} (ha : MW ws (a, .inl (cA, x))) (ht : tys[t0]? = some (cA, ty)) (hv : Int32.ofNat x.1 = v) (hdg : decode cc pc = .ok (.arraylength, 1)) (hn : pc + 1 = n) (k : ZZ p l e R s m args below meth c G A nL cells slots Q ws lv n (.int v :: rest)) : ZZ p l e R s m args below meth c G A nL cells slots Q ws lv pc (.ref a :: rest) := by
  obtain ⟨q0, h0⟩ := ha
  exact z_alen hC q0 t0 h0 ht hv hdg hn k
/-- a reference out of an array of int[] -/
theorem y_qald (hC : Cx p s m args c cc nL own G tys A) (t0 : Nat) {a : Nat} {cA : ClassId} {N : Nat} {f : Nat → Option Nat} (j : Nat) {x : Int32} {v : Nat} (ha : MW ws (a, .inl (cA, N, .inr (.inr (.inr (.inr f)))))) (ht : tys[t0]? = some (cA, .array .int)) (hx : x = nI j) (hj : j < N) (hN : N < 2 ^ 31) (hv : f j = some v) (hdg : decode cc pc = .ok (.aaload, 1)) (hn : pc + 1 = n) (k : ZZ p l e R s m args below meth c G A nL cells slots Q ws lv n (.ref v :: rest)) : ZZ p l e R s m args below meth c G A nL cells slots Q ws lv pc (.int x :: .ref a :: rest) := by
  subst hn; subst hx
  obtain ⟨q0, h0⟩ := ha
  intro H locs ls hP hD hS hl
  have e : (nI j).toNatClampNeg = j := nI_clamp (Nat.lt_trans hj hN)
  refine W.aald (v := .ref v) (ty := .array .int) hC.1 hC.2.1 (hP q0 _ h0) ((hC.2.2.2.2.2.1.2 t0 _ ht).1 N (fun j => va_rf (f j))) rfl (fun q => by cases q) (by show ¬ (_ ∨ (arrV _ _ _).slots.size ≤ _); rw [arrV_size]; exact vp_in_nI hj hN) (by show (arrV _ _ _).slots[_]? = _; rw [e, arrV_read _ _ hj, hv]; rfl) rfl rfl hdg (k H locs ls hP hD hS hl)
theorem zAO_of (hC : Cx p s m args c cc nL own G tys A) (t0 t1 : Nat) {cQ cI : ClassId} (ht : tys[t0]? = some (cQ, .array .int)) (ht1 : tys[t1]? = some (cI, .int)) : ∃ kA : Class, s.vm.classes[cQ]? = some kA ∧ kA.kind = .array cI (.array .int) := by
  obtain ⟨comp, c9, k, h1, h2, h3, h4, h5⟩ := arrayOverA_spec hC.2.2.2.2.2.2.2.1.2.2.2.2.2
  have e1 : s.vm.findClass ("[" ++ (FieldType.array .int).toString) = some cQ := (hC.2.2.2.2.2.1.2 t0 _ ht).2
  have e2 : s.vm.findClass ("[" ++ FieldType.int.toString) = some cI := (hC.2.2.2.2.2.1.2 t1 _ ht1).2
  have e3 : c9 = cQ := Option.some.inj (h5.symm.trans e1)
  have e4 : comp = cI := Option.some.inj (h1.symm.trans e2)
  subst e3; subst e4
  exact ⟨k, h3, h4⟩
theorem y_qast (hC : Cx p s m args c cc nL own G tys A) (t0 t1 : Nat) {a : Nat} {cA cI : ClassId} {N : Nat} {f f' : Nat → Option Nat} (j : Nat) {x : Int32} {v : Nat} {y9 : vp_A} {ws' : va_W} (ht : tys[t0]? = some (cA, .array .int)) (ht1 : tys[t1]? = some (cI, .int)) (hq : MW ws (v, .inl (cI, y9))) (hx : x = nI j) (hj : j < N) (hN : N < 2 ^ 31) (hf : va_up f j (some v) = f') (hw : PW ws (a, .inl (cA, N, .inr (.inr (.inr (.inr f))))) (a, .inl (cA, N, .inr (.inr (.inr (.inr f'))))) ws') (hdg : decode cc pc = .ok (.aastore, 1)) (hn : pc + 1 = n) (k : ZZ p l e R s m args below meth c G A nL cells slots Q ws' lv n rest) : ZZ p l e R s m args below meth c G A nL cells slots Q ws lv pc (.ref v :: .int x :: .ref a :: rest) := by
  subst hn; subst hx; subst hf
  obtain ⟨q0, h0, rfl⟩ := hw
  obtain ⟨q1, h1⟩ := hq
  intro H locs ls hP hD hS hl
  have e : (nI j).toNatClampNeg = j := nI_clamp (Nat.lt_trans hj hN)
  obtain ⟨kA, k1, k2⟩ := zAO_of hC t0 t1 ht ht1
  obtain ⟨-, kI, hkI, compI, hkindI⟩ := (hC.2.2.2.2.2.1.2 t1 _ ht1).1 0 (fun _ => .null)
  have g1 : H[v]? = some (vp_cell cI y9) := hP q1 _ h1
  have hvm0 : (vp_cell cI y9).vm = .none := by
    obtain ⟨n, f | f | f | f | f⟩ := y9 <;> rfl
  have hcl0 : (vp_cell cI y9).cls = cI := by
    obtain ⟨n, f | f | f | f | f⟩ := y9 <;> rfl
  refine W.aast hC.1 hC.2.1 (hP q0 _ h0) (fun q h => by cases h) (fun h => by cases h) k1 k2 rfl hkI ⟨nI_pos (Nat.lt_trans hj hN), by show _ < (arrV _ _ _).slots.size; rw [arrV_size, e]; exact hj⟩ g1 (fun q h => by rw [hvm0] at h; cases h) (by rw [hcl0]; exact hkI) (by rw [hcl0]; exact va_asg _ _) rfl rfl hdg fun H1 e1 z oq => ?_
  refine k H1 _ ls (hP.set hD h0 ?_ oq) (hD.set h0) (hS.put z oq (hD.2 q0 _ h0)) hl
  show H1[a]? = some (vp_cell _ _)
  rw [e1, vp_cell_q, vp_cell_q, arrV_store, e]
  congr 2
  funext q
  by_cases hq9 : q = j
  · subst hq9
    simp [updV, va_up, va_rf]
  · simp [updV, va_up, hq9]
theorem y_anew (hC : Cx p s m args c cc nL own G tys A) (t0 N : Nat) {cA : ClassId} {x : Int32} {index : Nat} {ws2 : Nat → va_W} (ht : tys[t0]? = some (cA, .array .int)) (hcl : Cond.classLink own index "[I" ∈ zAW) (hx : x = nI N) (hN : N < 1000) (hc : cells + 1 ≤ R.cells) (hs : slots + N ≤ R.slots) (hdg : decode cc pc = .ok (.anewarray index, 3)) (hw : ∀ q, ws ++ [(q, .inl (cA, N, .inr (.inr (.inr (.inr (fun _ => none))))))] = ws2 q) (hn : pc + 3 = n) (k : ∀ q : Nat, ZZ p l e R s m args below meth c G A nL (cells + 1) (slots + N) Q (ws2 q) lv n (.ref q :: rest)) : ZZ p l e R s m args below meth c G A nL cells slots Q ws lv pc (.int x :: rest) := by
  subst hn; subst hx
  intro H locs ls hP hD hS hl
  have e : (nI N).toNatClampNeg = N := nI_clamp (by omega)
  refine W.anewA (t := .int) hC.1 hC.2.1 hC.2.2.2.1 (hC.2.2.2.2.1 _ hcl) hC.2.2.2.2.2.2.2.1.2.2.2.2.2 rfl hdg rfl (nI_pos (by omega)) (by rw [e]; omega) hc (by rw [e]; exact hs) fun cA' kA comp f1 f2 f3 f4 => ?_
  rw [e]
  have e1 : s.vm.findClass ("[" ++ (FieldType.array .int).toString) = some cA := (hC.2.2.2.2.2.1.2 t0 _ ht).2
  have e3 : cA' = cA := Option.some.inj (f1.symm.trans e1)
  subst e3
  generalize hH1 : H.push ({ cls := cA', slots := Array.replicate N .null, vm := .none } : Cell) = H1
  have z1 : H1.size = H.size + 1 := by rw [← hH1, Array.size_push]
  have e1 : H1[H.size]? = some (arrV cA' N (fun _ => .null)) := by rw [← hH1, Array.getElem?_push_size, ← arrV_new]
  have o1 : ∀ q : Nat, q < H.size → H1[q]? = H[q]? := fun q hq => by rw [← hH1, Array.getElem?_push, if_neg (Nat.ne_of_lt hq)]
  have hk : ∀ (k : Nat) (x : Nat × va_E), ws[k]? = some x → H1[x.1]? = H[x.1]? := fun k x hx => o1 x.1 ((hP k x hx).lt)
  have hP2 : va_P G vwCl (ws ++ [(H.size, .inl (cA', N, .inr (.inr (.inr (.inr (fun _ => none))))))]) H1 := (hP.kept hk).app (fun k x hx => by
    have hz : k < 1 := (List.getElem?_eq_some_iff.mp hx).1
    rw [show k = 0 by omega] at hx
    cases hx
    show H1[H.size]? = some (vp_cell _ _)
    rw [vp_cell_q]
    exact e1)
  have hD2 : va_D A (ws ++ [(H.size, .inl (cA', N, .inr (.inr (.inr (.inr (fun _ => none))))))]) := hD.push hP rfl (hC.2.2.2.2.2.2.1 _ hS.1)
  rw [hw] at hP2 hD2
  exact k H.size H1 locs ls hP2 hD2 ⟨Nat.le_trans hS.1 (by omega), fun x h1 h2 => (o1 x (Nat.lt_of_lt_of_le h1 hS.1)).trans (hS.2.1 x h1 h2), hS.2.2⟩ hl
theorem y_clone (hC : Cx p s m args c cc nL own G tys A) (t0 : Nat) {a N : Nat} {cA : ClassId} {f : Nat → Int32} {index : Nat} {ws2 : Nat → va_W} (ha : MW ws (a, .inl (cA, N, .inl f))) (ht : tys[t0]? = some (cA, .int)) (hl1 : Cond.methodLink own index ⟨"[I", "clone", "()Ljava/lang/Object;"⟩ ∈ zAW) (hl2 : Cond.sameMethod "[I" "java/lang/Object" "clone" "()Ljava/lang/Object;" ∈ zAW) (hl3 : Cond.native ⟨"java/lang/Object", "clone", "()Ljava/lang/Object;"⟩ ∈ zAW) (hl4 : Cond.instanceMethod ⟨"java/lang/Object", "clone", "()Ljava/lang/Object;"⟩ ∈ zAW) (hl5 : Cond.selects "[I" ⟨"[I", "clone", "()Ljava/lang/Object;"⟩ ⟨"java/lang/Object", "clone", "()Ljava/lang/Object;"⟩ ∈ zAW) (hfr : 1 ≤ R.frames) (hlo : (rest.map fun v => v.category).sum + 14 ≤ R.locals) (hc : cells + 1 ≤ R.cells) (hs : slots + N ≤ R.slots) (hdg : decode cc pc = .ok (.invokevirtual index, 3)) (hw : ∀ q, ws ++ [(q, .inl (cA, N, .inl f))] = ws2 q) (hn : pc + 3 = n) (k : ∀ q : Nat, ZZ p l e R s m args below meth c G A nL (cells + 1) (slots + N) Q (ws2 q) lv n (.ref q :: rest)) : ZZ p l e R s m args below meth c G A nL cells slots Q ws lv pc (.ref a :: rest) := by
  subst hn
  obtain ⟨q0, h0⟩ := ha
  intro H locs ls hP hD hS hl
  refine va_clone (ad := "[I") hC.1 hC.2.1 (hC.2.2.1.trans hl.1.symm) hC.2.2.2.1 (hC.2.2.2.2.1 _ hl1) (hC.2.2.2.2.1 _ hl2) (hC.2.2.2.2.1 _ hl3) (hC.2.2.2.2.1 _ hl4) (hC.2.2.2.2.1 _ hl5) hC.2.2.2.2.2.2.2.1.2.2.2.2.1 hC.2.2.2.2.2.1 hP hD hS hC.2.2.2.2.2.2.1 q0 t0 h0 ht (hC.2.2.2.2.2.1.2 t0 _ ht).2 (fun i v hv => ?_) hfr hlo hc hs hdg (fun q H1 hK hP hD hS => ?_)
  · have hv9 : (arrV cA N (fun j => .int (f j))).slots[i]? = some v := hv
    by_cases hi : i < N
    · rw [arrV_read _ _ hi] at hv9
      cases hv9
      rfl
    · rw [Array.getElem?_eq_none (by rw [arrV_size]; omega)] at hv9
      cases hv9
  · rw [hw q] at hP hD
    exact k q H1 locs ls hP hD hS hl
theorem y_cast (hC : Cx p s m args c cc nL own G tys A) (t0 : Nat) {a : Nat} {cA : ClassId} {x : vp_A} {index : Nat} (ha : MW ws (a, .inl (cA, x))) (ht : tys[t0]? = some (cA, .int)) (hlink : Cond.classLink own index "[I" ∈ zAW) (hdg : decode cc pc = .ok (.checkcast index, 3)) (hn : pc + 3 = n) (k : ZZ p l e R s m args below meth c G A nL cells slots Q ws lv n (.ref a :: rest)) : ZZ p l e R s m args below meth c G A nL cells slots Q ws lv pc (.ref a :: rest) := by
  subst hn
  obtain ⟨q0, h0⟩ := ha
  exact fun H locs ls hP hD hS hl => va_castA hC.1 hC.2.1 hC.2.2.2.1 (hC.2.2.2.2.1 _ hlink) hP q0 h0 (hC.2.2.2.2.2.1.2 t0 _ ht).2 hdg (k H locs ls hP hD hS hl)
theorem y_ifnonnull (hC : Cx p s m args c cc nL own G tys A) {x : Nat} {off : Int} {tgt : Nat} (hdg : decode cc pc = .ok (.ifnonnull off, 3)) (ht : (pc : Int) + off = (tgt : Int)) (k : ZZ p l e R s m args below meth c G A nL cells slots Q ws lv tgt rest) : ZZ p l e R s m args below meth c G A nL cells slots Q ws lv pc (.ref x :: rest) :=
  fun H locs ls hP hD hS hl => lv_ifnonnull hC.1 hC.2.1 hdg ht (k H locs ls hP hD hS hl)
theorem y_ldc (hC : Cx p s m args c cc nL own G tys A) {index : Nat} {v : Int32} (hw : Cond.constant own index v ∈ zAW) (hdg : decode cc pc = .ok (.ldc index, 2)) (hn : pc + 2 = n) (k : ZZ p l e R s m args below meth c G A nL cells slots Q ws lv n (.int v :: rest)) : ZZ p l e R s m args below meth c G A nL cells slots Q ws lv pc rest := by
  subst hn
  exact fun H locs ls hP hD hS hl => lv_ldc hC.1 hC.2.1 hC.2.2.2.1 (hC.2.2.2.2.1 _ hw) hdg (k H locs ls hP hD hS hl)
end YR
/-- the script: an array that is not written -/
def zK (b0 L : Nat) (xs : Nat → Int32) (W0 : va_W) (U : State) : Prop := va_X b0 L xs U U.heap ∧ b0 < U.heap.size ∧ ¬ va_A W0 U.heap.size b0
theorem zK_moved {b0 L : Nat} {xs : Nat → Int32} {W0 : va_W} {U : State} {g : JFrame} {mk : MethodId} {a : Array Value} (h : zK b0 L xs W0 U) : zK b0 L xs W0 (U.calling g mk a) := ⟨h.1.moved (u := U) (U := U.calling g mk a) (Vm.Alike.refl U.vm), h.2.1, h.2.2⟩
theorem zK_to {A : Nat → Prop} {b0 L : Nat} {xs : Nat → Int32} {W0 WF : va_W} {s U : State} {H : Heap} {locs : List Loc} (hW : s.WarmedH U.vm) (hU : U.heap = H) (hS : va_S A s.heap H locs) (hD : va_D A (W0 ++ WF)) (hX : va_X b0 L xs s s.heap) (hb : b0 < s.heap.size) (hA : ¬ A b0) : zK b0 L xs W0 U := by
  subst hU
  refine ⟨(hX.kept (hS.2.1 b0 hb hA)).moved hW.alike, Nat.lt_of_lt_of_le hb hS.1, fun h => ?_⟩
  rcases h with ⟨k, e, h⟩ | h
  · exact hA (hD.2 k (b0, e) (wl h))
  · have := hS.1
    omega
def MR (S : Type) (l : Launch) (y : MethodName) (cy : ByteArray) (nl fr lo : Nat) (rt : FieldType) (G : va_G) (tys : List (ClassId × FieldType)) (av : List Value) (W0 : va_W) (post : S → Prop) (adr : S → Nat) (W1 : S → va_W) (mc ms : Nat) : Prop :=
  ∀ sz : Nat, Met l y (.code y cy nl (some rt) :: zAW) { frames := fr, cells := mc, slots := ms, locals := lo } (va_Pc av (cW G tys sz W0)) (va_Qr post (fun u a t => a = adr u ∧ cE G tys (va_A W0 sz) (W1 u) t) (va_A W0 sz)) mc ms (va_A W0 sz)
def MRK (b0 L : Nat) (xs : Nat → Int32) (S : Type) (l : Launch) (y : MethodName) (cy : ByteArray) (nl fr lo : Nat) (rt : FieldType) (G : va_G) (tys : List (ClassId × FieldType)) (av : List Value) (W0 : va_W) (post : S → Prop) (adr : S → Nat) (W1 : S → va_W) (mc ms : Nat) : Prop :=
  ∀ sz : Nat, Met l y (.code y cy nl (some rt) :: zAW) { frames := fr, cells := mc, slots := ms, locals := lo } (va_Pc av (fun U => cW G tys sz W0 U ∧ zK b0 L xs W0 U)) (va_Qr post (fun u a t => a = adr u ∧ cE G tys (va_A W0 sz) (W1 u) t) (va_A W0 sz)) mc ms (va_A W0 sz)
def MIK (b0 L : Nat) (xs : Nat → Int32) (S : Type) (l : Launch) (y : MethodName) (cy : ByteArray) (nl fr lo : Nat) (G : va_G) (tys : List (ClassId × FieldType)) (av : List Value) (W0 : va_W) (post : Int32 → S → Prop) (W1 : S → va_W) (mc ms : Nat) : Prop :=
  ∀ sz : Nat, Met l y (.code y cy nl (some .int) :: zAW) { frames := fr, cells := mc, slots := ms, locals := lo } (va_Pc av (fun U => cW G tys sz W0 U ∧ zK b0 L xs W0 U)) (va_Qi post (fun u => cE G tys (va_A W0 sz) (W1 u)) (va_A W0 sz)) mc ms (va_A W0 sz)
/-- a method with a table of handlers that answers a boolean -/
def MBH (S : Type) (l : Launch) (y : MethodName) (cy : ByteArray) (nl fr lo : Nat) (hh : List (Nat × Nat × Nat × Nat)) (G : va_G) (tys : List (ClassId × FieldType)) (av : List Value) (W0 : va_W) (post : Int32 → S → Prop) (W1 : S → va_W) (mc ms : Nat) : Prop :=
  ∀ sz : Nat, Met l y (.codeWith y cy nl (some .boolean) hh :: zAW) { frames := fr, cells := mc, slots := ms, locals := lo } (va_Pc av (cW G tys sz W0)) (va_Qi post (fun u => cE G tys (va_A W0 sz) (W1 u)) (va_A W0 sz)) mc ms (va_A W0 sz)
theorem Met_ofWH {l : Launch} {y : MethodName} {ws ws' : List Cond} {rm : Room} {Pc : Array Value → State → Prop} {Qc : Array Value → State → Outcome → State → Prop} {mc ms : Nat} {free : Addr → Prop} {cc : ByteArray} {maxL : Nat} {ret : Option FieldType} {hh : List (Nat × Nat × Nat × Nat)} (hy : plainName y.cls = true) (hw : ws = Cond.codeWith y cc maxL ret hh :: ws')
    (body : ∀ p e s m args below meth c s₁, BodyLoose p l y (headSpec ws rm) cc maxL ret e s m args below meth c s₁ → c.maxLocals = maxL → Pc args s →
      W p l e (headSpec ws rm).room s m args below meth c s.heap [] 0 0 (MQ below Qc args s mc ms free) (entryFrame m args maxL)) : Met l y ws rm Pc Qc mc ms free := by
  refine MetFree.of_bodyS (code := cc) (maxLocals := maxL) (ret := ret) hy ?_ ?_
  · intro args s m h hn
    obtain ⟨m9, meth, c, hn9, h1, h2, h3, h4, -, h5, h6, -⟩ := Cond.codeWith_spec (atoms_spec (ws := ws) h _ (by rw [hw]; exact List.mem_cons_self))
    cases hn.symm.trans hn9
    exact ⟨meth, c, h1, h2, h3, h4, h5, h6⟩
  · intro p e s m args below meth c s₁ B hml hP _
    have hh0 : s₁.heap = s.heap := by rw [B.state]; rfl
    obtain ⟨t, a1, o, b1, b2, b3⟩ := body p e s m args below meth c s₁ B hml hP s₁ hh0 (Stand.of_body B)
    exact ⟨t, o, a1, b1, b2, ⟨b3.1, b3.2⟩⟩

theorem MR_of {S : Type} {l : Launch} {y : MethodName} {cy : ByteArray} {nl fr lo : Nat} {rt : FieldType} {G : va_G} {tys : List (ClassId × FieldType)} {av : List Value} {W0 : va_W} {post : S → Prop} {adr : S → Nat} {W1 : S → va_W} {mc ms : Nat} (hy : plainName y.cls = true) (hnl : (lg_sl av).length ≤ nl) (lv : List (Nat × Value)) (hlv : lv_args 0 av = lv)
    (body : ∀ (p : Program) (e : Env) (s : State) (m : MethodId) (below : List Frame) (meth : Method) (c : Code), Cx p s m av.toArray c cy nl y.cls G tys (va_A W0 s.heap.size) → meth.sig.returnType = some rt → meth.locks = false → 
      ZZ p l e { frames := fr, cells := mc, slots := ms, locals := lo } s m av.toArray below meth c G (va_A W0 s.heap.size) nl 0 0 (MQ below (va_Qr post (fun u a t => a = adr u ∧ cE G tys (va_A W0 s.heap.size) (W1 u) t) (va_A W0 s.heap.size)) av.toArray s mc ms (va_A W0 s.heap.size)) W0 lv 0 []) : MR S l y cy nl fr lo rt G tys av W0 post adr W1 mc ms := by
  intro sz
  refine Met.ofW (cc := cy) (maxL := nl) (ret := some rt) hy rfl ?_
  intro p e s m args below meth c s₁ B hml hv
  obtain ⟨rfl, hsz, hP, hK, hD0, hN0, hT0⟩ := hv
  subst hsz
  have hts := atoms_spec (ws := Cond.code y cy nl (some rt) :: zAW) B.pre
  have hl := lv_entry av (n := nl) hnl
  rw [lg_entry_eq]
  exact body p e s m below meth c ⟨B.exec, B.bytes, hml, findClass_of_methodNamed B.named, fun w h => hts w (List.mem_cons_of_mem _ h), hK, fun q h => Or.inr h, hN0, hT0⟩ B.returns B.notSynchronized  s.heap [] _ hP hD0.self va_S.rf (hlv ▸ hl)
theorem MRK_of {S : Type} {l : Launch} {y : MethodName} {cy : ByteArray} {nl fr lo : Nat} {rt : FieldType} {b0 L : Nat} {xs : Nat → Int32} {G : va_G} {tys : List (ClassId × FieldType)} {av : List Value} {W0 : va_W} {post : S → Prop} {adr : S → Nat} {W1 : S → va_W} {mc ms : Nat} (hy : plainName y.cls = true) (hnl : (lg_sl av).length ≤ nl) (lv : List (Nat × Value)) (hlv : lv_args 0 av = lv)
    (body : ∀ (p : Program) (e : Env) (s : State) (m : MethodId) (below : List Frame) (meth : Method) (c : Code), Cx p s m av.toArray c cy nl y.cls G tys (va_A W0 s.heap.size) → meth.sig.returnType = some rt → meth.locks = false → zK b0 L xs W0 s →
      ZZ p l e { frames := fr, cells := mc, slots := ms, locals := lo } s m av.toArray below meth c G (va_A W0 s.heap.size) nl 0 0 (MQ below (va_Qr post (fun u a t => a = adr u ∧ cE G tys (va_A W0 s.heap.size) (W1 u) t) (va_A W0 s.heap.size)) av.toArray s mc ms (va_A W0 s.heap.size)) W0 lv 0 []) : MRK b0 L xs S l y cy nl fr lo rt G tys av W0 post adr W1 mc ms := by
  intro sz
  refine Met.ofW (cc := cy) (maxL := nl) (ret := some rt) hy rfl ?_
  intro p e s m args below meth c s₁ B hml hv
  obtain ⟨rfl, ⟨hsz, hP, hK, hD0, hN0, hT0⟩, hz⟩ := hv
  subst hsz
  have hts := atoms_spec (ws := Cond.code y cy nl (some rt) :: zAW) B.pre
  have hl := lv_entry av (n := nl) hnl
  rw [lg_entry_eq]
  exact body p e s m below meth c ⟨B.exec, B.bytes, hml, findClass_of_methodNamed B.named, fun w h => hts w (List.mem_cons_of_mem _ h), hK, fun q h => Or.inr h, hN0, hT0⟩ B.returns B.notSynchronized hz s.heap [] _ hP hD0.self va_S.rf (hlv ▸ hl)
theorem MIK_of {S : Type} {l : Launch} {y : MethodName} {cy : ByteArray} {nl fr lo : Nat} {b0 L : Nat} {xs : Nat → Int32} {G : va_G} {tys : List (ClassId × FieldType)} {av : List Value} {W0 : va_W} {post : Int32 → S → Prop} {W1 : S → va_W} {mc ms : Nat} (hy : plainName y.cls = true) (hnl : (lg_sl av).length ≤ nl) (lv : List (Nat × Value)) (hlv : lv_args 0 av = lv)
    (body : ∀ (p : Program) (e : Env) (s : State) (m : MethodId) (below : List Frame) (meth : Method) (c : Code), Cx p s m av.toArray c cy nl y.cls G tys (va_A W0 s.heap.size) → meth.sig.returnType = some .int → meth.locks = false → zK b0 L xs W0 s →
      ZZ p l e { frames := fr, cells := mc, slots := ms, locals := lo } s m av.toArray below meth c G (va_A W0 s.heap.size) nl 0 0 (MQ below (va_Qi post (fun u => cE G tys (va_A W0 s.heap.size) (W1 u)) (va_A W0 s.heap.size)) av.toArray s mc ms (va_A W0 s.heap.size)) W0 lv 0 []) : MIK b0 L xs S l y cy nl fr lo G tys av W0 post W1 mc ms := by
  intro sz
  refine Met.ofW (cc := cy) (maxL := nl) (ret := some .int) hy rfl ?_
  intro p e s m args below meth c s₁ B hml hv
  obtain ⟨rfl, ⟨hsz, hP, hK, hD0, hN0, hT0⟩, hz⟩ := hv
  subst hsz
  have hts := atoms_spec (ws := Cond.code y cy nl (some .int) :: zAW) B.pre
  have hl := lv_entry av (n := nl) hnl
  rw [lg_entry_eq]
  exact body p e s m below meth c ⟨B.exec, B.bytes, hml, findClass_of_methodNamed B.named, fun w h => hts w (List.mem_cons_of_mem _ h), hK, fun q h => Or.inr h, hN0, hT0⟩ B.returns B.notSynchronized hz s.heap [] _ hP hD0.self va_S.rf (hlv ▸ hl)
theorem MBH_of {S : Type} {l : Launch} {y : MethodName} {cy : ByteArray} {nl fr lo : Nat} {hh : List (Nat × Nat × Nat × Nat)} {G : va_G} {tys : List (ClassId × FieldType)} {av : List Value} {W0 : va_W} {post : Int32 → S → Prop} {W1 : S → va_W} {mc ms : Nat} (hy : plainName y.cls = true) (hnl : (lg_sl av).length ≤ nl) (lv : List (Nat × Value)) (hlv : lv_args 0 av = lv)
    (body : ∀ (p : Program) (e : Env) (s : State) (m : MethodId) (below : List Frame) (meth : Method) (c : Code), Cx p s m av.toArray c cy nl y.cls G tys (va_A W0 s.heap.size) → meth.sig.returnType = some .boolean → meth.locks = false → c.exceptionTable.toList = tableOf hh →
      ZZ p l e { frames := fr, cells := mc, slots := ms, locals := lo } s m av.toArray below meth c G (va_A W0 s.heap.size) nl 0 0 (MQ below (va_Qi post (fun u => cE G tys (va_A W0 s.heap.size) (W1 u)) (va_A W0 s.heap.size)) av.toArray s mc ms (va_A W0 s.heap.size)) W0 lv 0 []) : MBH S l y cy nl fr lo hh G tys av W0 post W1 mc ms := by
  intro sz
  refine Met_ofWH (cc := cy) (maxL := nl) (ret := some .boolean) (hh := hh) hy rfl ?_
  intro p e s m args below meth c s₁ B hml hv
  obtain ⟨rfl, hsz, hP, hK, hD0, hN0, hT0⟩ := hv
  subst hsz
  have hts := atoms_spec (ws := Cond.codeWith y cy nl (some .boolean) hh :: zAW) B.pre
  have hl := lv_entry av (n := nl) hnl
  rw [lg_entry_eq]
  exact body p e s m below meth c ⟨B.exec, B.bytes, hml, findClass_of_methodNamed B.named, fun w h => hts w (List.mem_cons_of_mem _ h), hK, fun q h => Or.inr h, hN0, hT0⟩ B.returns B.notSynchronized (vx_table (x := y) B (hts _ List.mem_cons_self)) s.heap [] _ hP hD0.self va_S.rf (hlv ▸ hl)
theorem z_aret {p : Program} {l : Launch} {e : Env} {R : Room} {s : State} {m : MethodId} {args : Array Value} {below : List Frame} {meth : Method} {c : Code} {cc : ByteArray} {nL : Nat} {own : String} {G : va_G} {tys : List (ClassId × FieldType)} {W0 : va_W} {cells slots : Nat} {ws : va_W} {lv : List (Nat × Value)} {pc : Nat} {S : Type} {post : S → Prop} {adr : S → Nat} {W1 : S → va_W} {v : Nat} {mc ms : Nat} {rt : FieldType} (hC : Cx p s m args c cc nL own G tys (va_A W0 s.heap.size)) (hr : meth.sig.returnType = some rt) (hrt : (∃ n, rt = .object n) ∨ ∃ t, rt = .array t) (hlocks : meth.locks = false) (u : S) (hp : post u) (hv : v = adr u) (hw : ws = W1 u) (hdg : decode cc pc = .ok (.areturn, 1)) (h1 : cells ≤ mc) (h2 : slots ≤ ms) : ZZ p l e R s m args below meth c G (va_A W0 s.heap.size) nL cells slots (MQ below (va_Qr post (fun u a t => a = adr u ∧ cE G tys (va_A W0 s.heap.size) (W1 u) t) (va_A W0 s.heap.size)) args s mc ms (va_A W0 s.heap.size)) ws lv pc [.ref v] := by
  subst hw; subst hv
  intro H locs ls hP hD hS hl
  refine W.widen h1 h2 ?_
  exact W.aret hC.1 hC.2.1 hr hrt (Or.inr ⟨_, rfl⟩) (fun t ht hW => ⟨⟨u, adr u, rfl, hp, rfl, by rw [ht]; exact hP, va_K.moved hW.alike hC.2.2.2.2.2.1, hD⟩, hS.F ht⟩) hS.2.2 hdg hlocks
theorem catL_permN (N : Nat) (B : List va_W) (is js : List Nat) (hN : B.length = N) (Bi Bj : List va_W) (hi : is.map (fun i => B[i]?) = Bi.map some) (hj : js.map (fun i => B[i]?) = Bj.map some) (hp : (is ++ js).Perm (List.range N)) : (catL B).Perm (catL Bi ++ catL Bj) := catL_perm B is js hi hj (hN ▸ hp)
theorem catL_back (N : Nat) (B : List va_W) (is js : List Nat) (hN : B.length = N) (Bi Bj : List va_W) (hi : is.map (fun i => B[i]?) = Bi.map some) (hj : js.map (fun i => B[i]?) = Bj.map some) (hp : (is ++ js).Perm (List.range N)) : (catL Bi ++ catL Bj).Perm (catL B ++ []) := by
  rw [List.append_nil]
  exact (catL_permN N B is js hN Bi Bj hi hj hp).symm
theorem y_sld {p : Program} {l : Launch} {e : Env} {R : Room} {s : State} {m : MethodId} {args : Array Value} {below : List Frame} {meth : Method} {c : Code} {cc : ByteArray} {nL : Nat} {own : String} {G : va_G} {tys : List (ClassId × FieldType)} {A : Nat → Prop} {cells slots : Nat} {Q : State → Prop} {ws : va_W} {lv : List (Nat × Value)} {pc n : Nat} {rest : List Value} (hC : Cx p s m args c cc nL own G tys A) {b0 L : Nat} {xs : Nat → Int32} (hX : va_X b0 L xs s s.heap) (hb : b0 < s.heap.size) (hA : ¬ A b0) (hL : L ≤ 2048) (j : Nat) {x : Int32} (hx : x = nI j) (hj : j < L) (hdg : decode cc pc = .ok (.iaload, 1)) (hn : pc + 1 = n) (k : ZZ p l e R s m args below meth c G A nL cells slots Q ws lv n (.int (xs j) :: rest)) : ZZ p l e R s m args below meth c G A nL cells slots Q ws lv pc (.int x :: .ref b0 :: rest) := by
  subst hn; subst hx
  intro H locs ls hP hD hS hl
  refine va_sld hC.1 hC.2.1 hX hb hA hS (vp_in_nI hj (by omega)) hdg ?_
  rw [nI_clamp (by omega)]
  exact k H locs ls hP hD hS hl
theorem y_slen {p : Program} {l : Launch} {e : Env} {R : Room} {s : State} {m : MethodId} {args : Array Value} {below : List Frame} {meth : Method} {c : Code} {cc : ByteArray} {nL : Nat} {own : String} {G : va_G} {tys : List (ClassId × FieldType)} {A : Nat → Prop} {cells slots : Nat} {Q : State → Prop} {ws : va_W} {lv : List (Nat × Value)} {pc n : Nat} {rest : List Value} (hC : Cx p s m args c cc nL own G tys A) {b0 L : Nat} {xs : Nat → Int32} (hX : va_X b0 L xs s s.heap) (hb : b0 < s.heap.size) (hA : ¬ A b0) (hdg : decode cc pc = .ok (.arraylength, 1)) (hn : pc + 1 = n) (k : ZZ p l e R s m args below meth c G A nL cells slots Q ws lv n (.int (nI L) :: rest)) : ZZ p l e R s m args below meth c G A nL cells slots Q ws lv pc (.ref b0 :: rest) := by
  subst hn
  intro H locs ls hP hD hS hl
  exact va_slen hC.1 hC.2.1 hX hb hA hS hdg (k H locs ls hP hD hS hl)
theorem y_newaZ {p : Program} {l : Launch} {e : Env} {R : Room} {s : State} {m : MethodId} {args : Array Value} {below : List Frame} {meth : Method} {c : Code} {cc : ByteArray} {nL : Nat} {own : String} {G : va_G} {tys : List (ClassId × FieldType)} {A : Nat → Prop} {cells slots : Nat} {Q : State → Prop} {ws : va_W} {lv : List (Nat × Value)} {pc n : Nat} {rest : List Value} (hC : Cx p s m args c cc nL own G tys A) (t0 N : Nat) {cA : ClassId} {x : Int32} {ws2 : Nat → va_W} (ht : tys[t0]? = some (cA, .boolean)) (hw0 : Cond.arrayClass .boolean ∈ zAW) (hx : x = nI N) (hN : N < 1000) (hc : cells + 1 ≤ R.cells) (hs : slots + N ≤ R.slots) (hdg : decode cc pc = .ok (.newarray .boolean, 2)) (hw : ∀ q, ws ++ [(q, .inl (cA, N, .inl (bI (fun _ => false))))] = ws2 q) (hn : pc + 2 = n) (k : ∀ q : Nat, ZZ p l e R s m args below meth c G A nL (cells + 1) (slots + N) Q (ws2 q) lv n (.ref q :: rest)) : ZZ p l e R s m args below meth c G A nL cells slots Q ws lv pc (.int x :: rest) := by
  subst hn; subst hx
  intro H locs ls hP hD hS hl
  refine va_newa (atype := .boolean) (ty := .boolean) (N' := N) (a0 := (N, .inl (bI (fun _ => false)))) hC.1 hC.2.1 (hC.2.2.2.2.1 _ hw0) rfl hC.2.2.2.2.2.1 hP hD hS hC.2.2.2.2.2.2.1 (fun _ => rfl) (nI_pos (by omega)) (nI_clamp (by omega)) (by show N * 1 ≤ 536870912; omega) hc hs hdg (fun q cA' H1 hK hP hD hS => ?_)
  have e1 : va_RA s cA' .boolean := (hK.2 tys.length (cA', .boolean) (by simp)).2
  have e2 : va_RA s cA .boolean := (hC.2.2.2.2.2.1.2 t0 _ ht).2
  have e3 : cA' = cA := Option.some.inj (Eq.trans (Eq.symm e1) e2)
  subst e3
  rw [hw q] at hP hD
  exact k q H1 locs ls hP hD hS hl

theorem z_new {p : Program} {l : Launch} {e : Env} {R : Room} {s : State} {m : MethodId} {args : Array Value} {below : List Frame} {meth : Method} {c : Code} {cc : ByteArray} {nL : Nat} {own : String} {G : va_G} {tys : List (ClassId × FieldType)} {A : Nat → Prop} {cells slots : Nat} {Q : State → Prop} {ws : va_W} {lv : List (Nat × Value)} {pc n : Nat} {rest : List Value} (hC : Cx p s m args c cc nL own G tys A) {C : String} {T : u_T} {N ci index : Nat} (hin : ∀ w ∈ u_ws C T N, w ∈ zAW) (ty0 : Nat → FieldType) (hty : ∀ k, k < N → parseFieldDescriptor (T k).2.2.1 = some (ty0 k)) (hc : vwCl[ci]? = some (C, T, N)) (hcl : Cond.classLink own index C ∈ zAW) (hinst : Cond.instantiable C N ∈ zAW) (hini : Cond.initialized C ∈ zAW) (fs : List Value) {ws2 : Nat → va_W} (hfs : ∀ j, j < N → defaultValue (ty0 j) = vp_V fs j) (hcs : cells + 1 ≤ R.cells) (hss : slots + N ≤ R.slots) (hdg : decode cc pc = .ok (.new index, 3)) (hw : ∀ q, ws ++ [(q, .inr (ci, fs))] = ws2 q) (hn : pc + 3 = n) (k : ∀ q : Nat, ZZ p l e R s m args below meth c G A nL (cells + 1) (slots + N) Q (ws2 q) lv n (.ref q :: rest)) : ZZ p l e R s m args below meth c G A nL cells slots Q ws lv pc rest := by
  subst hn
  intro H locs ls hP hD hS hl
  refine va_new hC.1 hC.2.1 hC.2.2.2.2.1 hin ty0 hty hC.2.2.2.1 (hC.2.2.2.2.1 _ hcl) (hC.2.2.2.2.1 _ hinst) (hC.2.2.2.2.1 _ hini) hC.2.2.2.2.2.1 hP hD hS hC.2.2.2.2.2.2.1 hc hfs hcs hss hdg (fun q H1 hP hD hS => ?_)
  rw [hw q] at hP hD
  exact k q H1 locs ls hP hD hS hl
theorem z_objI {p : Program} {l : Launch} {e : Env} {R : Room} {s : State} {m : MethodId} {args : Array Value} {below : List Frame} {meth : Method} {c : Code} {cc : ByteArray} {nL : Nat} {own : String} {G : va_G} {tys : List (ClassId × FieldType)} {A : Nat → Prop} {cells slots : Nat} {Q : State → Prop} {ws : va_W} {lv : List (Nat × Value)} {pc n : Nat} {rest : List Value} (hC : Cx p s m args c cc nL own G tys A) {index a : Nat} (hlk : Cond.methodLink own index Lib.objectInit ∈ zAW) (hin : Cond.instanceMethod Lib.objectInit ∈ zAW) (hcd : Cond.code Lib.objectInit ⟨#[0xb1]⟩ 1 none ∈ zAW) (hdg : decode cc pc = .ok (.invokespecial index, 3)) (hcat : (rest.map fun v => v.category).sum ≤ 8) (hfr : 1 ≤ R.frames) (hlo : 20 ≤ R.locals) (hn : pc + 3 = n) (k : ZZ p l e R s m args below meth c G A nL cells slots Q ws lv n rest) : ZZ p l e R s m args below meth c G A nL cells slots Q ws lv pc (.ref a :: rest) := by
  subst hn
  intro H locs ls hP hD hS hl
  exact W.objInit hC.1 hC.2.1 hC.2.2.2.1 (hC.2.2.2.2.1 _ hlk) (hC.2.2.2.2.1 _ hin) (hC.2.2.2.2.1 _ hcd) rfl (hl.1.trans hC.2.2.1.symm) rfl hdg hfr (Nat.le_trans (Nat.add_le_add_right (lv_room hcat) 12) hlo) (k H locs ls hP hD hS hl)
abbrev wQ (q tr go T : Nat) : va_W := [(q, .inr (3, [.int (nI T), .ref tr, .ref go]))]
abbrev wF (a : Nat) (cJ : ClassId) (n : Nat) (ad : Nat → Nat) : va_W := [(a, .inl (cJ, n, .inr (.inr (.inr (.inr (rfF ad n))))))]
abbrev wG (ga : Nat → Nat) (cI : ClassId) (sw st fa sc fi mi : Nat → Int32) (n : Nat) : va_W := wP ga cI 6 (gR sw st fa sc fi mi) n
abbrev wR (ra : Nat → Nat) (cI : ClassId) (b r : Nat → Int32) : va_W := wP ra cI 2 (tR b r) 5
abbrev wI (a : Nat) (cI : ClassId) (n : Nat) (f : Nat → Int32) : va_W := [(a, .inl (cI, n, .inl f))]
abbrev wZ (a : Nat) (cZ : ClassId) (n : Nat) (p : Nat → Bool) : va_W := [(a, .inl (cZ, n, .inl (bI p)))]
abbrev wO1 (a : Nat) (e : va_E) : va_W := [(a, e)]
theorem gy_X3_19 {p : Program} {l : Launch} {e : Env} {R : Room} {s : State} {m : MethodId} {args : Array Value} {below : List Frame} {meth : Method} {c : Code} {cc : ByteArray} {nL : Nat} {G : va_G} {tys : List (ClassId × FieldType)} {A : Nat → Prop} {cells slots : Nat} {Q : State → Prop} {ws : va_W} {lv : List (Nat × Value)} {pc n : Nat} {rest : List Value} (hC : Cx p s m args c cc nL RX3 G tys A) {a : Nat} {fs : List Value} {v : Value} (he : MW ws (a, .inr (3, fs))) (hv : fs[0]? = some v) (hdg : decode cc pc = .ok (.getfield 19, 3)) (hn : pc + 3 = n) (k : ZZ p l e R s m args below meth c G A nL cells slots Q ws lv n (v :: rest)) : ZZ p l e R s m args below meth c G A nL cells slots Q ws lv pc (.ref a :: rest) := y_get hC 0 inX3 rfl (by decide) q41 he hv hdg hn k
theorem py_X3_19 {p : Program} {l : Launch} {e : Env} {R : Room} {s : State} {m : MethodId} {args : Array Value} {below : List Frame} {meth : Method} {c : Code} {cc : ByteArray} {nL : Nat} {G : va_G} {tys : List (ClassId × FieldType)} {A : Nat → Prop} {cells slots : Nat} {Q : State → Prop} {ws : va_W} {lv : List (Nat × Value)} {pc n : Nat} {rest : List Value} (hC : Cx p s m args c cc nL RX3 G tys A) {a : Nat} {fs : List Value} {v : Int32} {ws' : va_W} (hl9 : 0 < fs.length) (hw : PW ws (a, .inr (3, fs)) (a, .inr (3, fs.set 0 (.int v))) ws') (hdg : decode cc pc = .ok (.putfield 19, 3)) (hn : pc + 3 = n) (k : ZZ p l e R s m args below meth c G A nL cells slots Q ws' lv n rest) : ZZ p l e R s m args below meth c G A nL cells slots Q ws lv pc (.int v :: .ref a :: rest) := y_put hC 0 inX3 tyX3 tyX3_ok nmX3 rfl (by decide) q41 rfl (by decide +kernel) hl9 hw hdg hn k
theorem gy_X3_9 {p : Program} {l : Launch} {e : Env} {R : Room} {s : State} {m : MethodId} {args : Array Value} {below : List Frame} {meth : Method} {c : Code} {cc : ByteArray} {nL : Nat} {G : va_G} {tys : List (ClassId × FieldType)} {A : Nat → Prop} {cells slots : Nat} {Q : State → Prop} {ws : va_W} {lv : List (Nat × Value)} {pc n : Nat} {rest : List Value} (hC : Cx p s m args c cc nL RX3 G tys A) {a : Nat} {fs : List Value} {v : Value} (he : MW ws (a, .inr (3, fs))) (hv : fs[1]? = some v) (hdg : decode cc pc = .ok (.getfield 9, 3)) (hn : pc + 3 = n) (k : ZZ p l e R s m args below meth c G A nL cells slots Q ws lv n (v :: rest)) : ZZ p l e R s m args below meth c G A nL cells slots Q ws lv pc (.ref a :: rest) := y_get hC 1 inX3 rfl (by decide) q42 he hv hdg hn k
theorem py_X3_9 {p : Program} {l : Launch} {e : Env} {R : Room} {s : State} {m : MethodId} {args : Array Value} {below : List Frame} {meth : Method} {c : Code} {cc : ByteArray} {nL : Nat} {G : va_G} {tys : List (ClassId × FieldType)} {A : Nat → Prop} {cells slots : Nat} {Q : State → Prop} {ws : va_W} {lv : List (Nat × Value)} {pc n : Nat} {rest : List Value} (hC : Cx p s m args c cc nL RX3 G tys A) {a : Nat} {fs : List Value} {v : Nat} {ws' : va_W} (hl9 : 1 < fs.length) (hw : PW ws (a, .inr (3, fs)) (a, .inr (3, fs.set 1 (.ref v))) ws') (hdg : decode cc pc = .ok (.putfield 9, 3)) (hn : pc + 3 = n) (k : ZZ p l e R s m args below meth c G A nL cells slots Q ws' lv n rest) : ZZ p l e R s m args below meth c G A nL cells slots Q ws lv pc (.ref v :: .ref a :: rest) := y_putq hC 1 inX3 tyX3 tyX3_ok nmX3 rfl (by decide) q42 rfl (ty := .array (.array .int)) (by decide +kernel) rfl rfl hl9 hw hdg hn k
theorem gy_L_32 {p : Program} {l : Launch} {e : Env} {R : Room} {s : State} {m : MethodId} {args : Array Value} {below : List Frame} {meth : Method} {c : Code} {cc : ByteArray} {nL : Nat} {G : va_G} {tys : List (ClassId × FieldType)} {A : Nat → Prop} {cells slots : Nat} {Q : State → Prop} {ws : va_W} {lv : List (Nat × Value)} {pc n : Nat} {rest : List Value} (hC : Cx p s m args c cc nL RL G tys A) {a : Nat} {fs : List Value} {v : Value} (he : MW ws (a, .inr (3, fs))) (hv : fs[1]? = some v) (hdg : decode cc pc = .ok (.getfield 32, 3)) (hn : pc + 3 = n) (k : ZZ p l e R s m args below meth c G A nL cells slots Q ws lv n (v :: rest)) : ZZ p l e R s m args below meth c G A nL cells slots Q ws lv pc (.ref a :: rest) := y_get hC 1 inX3 rfl (by decide) q43 he hv hdg hn k
theorem py_L_32 {p : Program} {l : Launch} {e : Env} {R : Room} {s : State} {m : MethodId} {args : Array Value} {below : List Frame} {meth : Method} {c : Code} {cc : ByteArray} {nL : Nat} {G : va_G} {tys : List (ClassId × FieldType)} {A : Nat → Prop} {cells slots : Nat} {Q : State → Prop} {ws : va_W} {lv : List (Nat × Value)} {pc n : Nat} {rest : List Value} (hC : Cx p s m args c cc nL RL G tys A) {a : Nat} {fs : List Value} {v : Nat} {ws' : va_W} (hl9 : 1 < fs.length) (hw : PW ws (a, .inr (3, fs)) (a, .inr (3, fs.set 1 (.ref v))) ws') (hdg : decode cc pc = .ok (.putfield 32, 3)) (hn : pc + 3 = n) (k : ZZ p l e R s m args below meth c G A nL cells slots Q ws' lv n rest) : ZZ p l e R s m args below meth c G A nL cells slots Q ws lv pc (.ref v :: .ref a :: rest) := y_putq hC 1 inX3 tyX3 tyX3_ok nmX3 rfl (by decide) q43 rfl (ty := .array (.array .int)) (by decide +kernel) rfl rfl hl9 hw hdg hn k
theorem gy_X3_15 {p : Program} {l : Launch} {e : Env} {R : Room} {s : State} {m : MethodId} {args : Array Value} {below : List Frame} {meth : Method} {c : Code} {cc : ByteArray} {nL : Nat} {G : va_G} {tys : List (ClassId × FieldType)} {A : Nat → Prop} {cells slots : Nat} {Q : State → Prop} {ws : va_W} {lv : List (Nat × Value)} {pc n : Nat} {rest : List Value} (hC : Cx p s m args c cc nL RX3 G tys A) {a : Nat} {fs : List Value} {v : Value} (he : MW ws (a, .inr (3, fs))) (hv : fs[2]? = some v) (hdg : decode cc pc = .ok (.getfield 15, 3)) (hn : pc + 3 = n) (k : ZZ p l e R s m args below meth c G A nL cells slots Q ws lv n (v :: rest)) : ZZ p l e R s m args below meth c G A nL cells slots Q ws lv pc (.ref a :: rest) := y_get hC 2 inX3 rfl (by decide) q44 he hv hdg hn k
theorem py_X3_15 {p : Program} {l : Launch} {e : Env} {R : Room} {s : State} {m : MethodId} {args : Array Value} {below : List Frame} {meth : Method} {c : Code} {cc : ByteArray} {nL : Nat} {G : va_G} {tys : List (ClassId × FieldType)} {A : Nat → Prop} {cells slots : Nat} {Q : State → Prop} {ws : va_W} {lv : List (Nat × Value)} {pc n : Nat} {rest : List Value} (hC : Cx p s m args c cc nL RX3 G tys A) {a : Nat} {fs : List Value} {v : Nat} {ws' : va_W} (hl9 : 2 < fs.length) (hw : PW ws (a, .inr (3, fs)) (a, .inr (3, fs.set 2 (.ref v))) ws') (hdg : decode cc pc = .ok (.putfield 15, 3)) (hn : pc + 3 = n) (k : ZZ p l e R s m args below meth c G A nL cells slots Q ws' lv n rest) : ZZ p l e R s m args below meth c G A nL cells slots Q ws lv pc (.ref v :: .ref a :: rest) := y_putq hC 2 inX3 tyX3 tyX3_ok nmX3 rfl (by decide) q44 rfl (ty := .array (.array .int)) (by decide +kernel) rfl rfl hl9 hw hdg hn k
theorem gy_L_9 {p : Program} {l : Launch} {e : Env} {R : Room} {s : State} {m : MethodId} {args : Array Value} {below : List Frame} {meth : Method} {c : Code} {cc : ByteArray} {nL : Nat} {G : va_G} {tys : List (ClassId × FieldType)} {A : Nat → Prop} {cells slots : Nat} {Q : State → Prop} {ws : va_W} {lv : List (Nat × Value)} {pc n : Nat} {rest : List Value} (hC : Cx p s m args c cc nL RL G tys A) {a : Nat} {fs : List Value} {v : Value} (he : MW ws (a, .inr (3, fs))) (hv : fs[2]? = some v) (hdg : decode cc pc = .ok (.getfield 9, 3)) (hn : pc + 3 = n) (k : ZZ p l e R s m args below meth c G A nL cells slots Q ws lv n (v :: rest)) : ZZ p l e R s m args below meth c G A nL cells slots Q ws lv pc (.ref a :: rest) := y_get hC 2 inX3 rfl (by decide) q45 he hv hdg hn k
theorem py_L_9 {p : Program} {l : Launch} {e : Env} {R : Room} {s : State} {m : MethodId} {args : Array Value} {below : List Frame} {meth : Method} {c : Code} {cc : ByteArray} {nL : Nat} {G : va_G} {tys : List (ClassId × FieldType)} {A : Nat → Prop} {cells slots : Nat} {Q : State → Prop} {ws : va_W} {lv : List (Nat × Value)} {pc n : Nat} {rest : List Value} (hC : Cx p s m args c cc nL RL G tys A) {a : Nat} {fs : List Value} {v : Nat} {ws' : va_W} (hl9 : 2 < fs.length) (hw : PW ws (a, .inr (3, fs)) (a, .inr (3, fs.set 2 (.ref v))) ws') (hdg : decode cc pc = .ok (.putfield 9, 3)) (hn : pc + 3 = n) (k : ZZ p l e R s m args below meth c G A nL cells slots Q ws' lv n rest) : ZZ p l e R s m args below meth c G A nL cells slots Q ws lv pc (.ref v :: .ref a :: rest) := y_putq hC 2 inX3 tyX3 tyX3_ok nmX3 rfl (by decide) q45 rfl (ty := .array (.array .int)) (by decide +kernel) rfl rfl hl9 hw hdg hn k
theorem y_callVi {p : Program} {l : Launch} {e : Env} {R : Room} {s : State} {m : MethodId} {args : Array Value} {below : List Frame} {meth : Method} {c : Code} {cc : ByteArray} {nL : Nat} {own : String} {G : va_G} {tys : List (ClassId × FieldType)} {A : Nat → Prop} {cells slots : Nat} {Q : State → Prop} {ws : va_W} {lv : List (Nat × Value)} {pc n : Nat} {rest : List Value} (hC : Cx p s m args c cc nL own G tys A) {S : Type} {y : MethodName} {cy : ByteArray} {nl fr lo : Nat} {W0 : va_W} {post : Int32 → S → Prop} {W1 : S → va_W} {mc ms index k9 : Nat} {a : Nat} {As : List Value} {C : String} (hM : MI S l y cy nl fr lo G tys (.ref a :: As) W0 post W1 mc ms) (hg : GoodIn zAW (wsV own index C y (.code y cy nl (some .int) :: zAW))) (hd : y.cls = C ∧ y.cls ≠ "java/lang/invoke/MethodHandle" ∧ y.cls ≠ "java/lang/invoke/VarHandle" ∧ (parseMethodDescriptor y.desc).map (fun d => d.parameters.length) = some k9) (hdg : decode cc pc = .ok (.invokevirtual index, 3)) (hR : fr + 1 ≤ R.frames ∧ 8 + (nl + 11) + lo ≤ R.locals) (q0 : Nat) {ci : Nat} {fs : List Value} {qc : vw_C} (hcl : vwCl[ci]? = some qc) (hqc : qc.1 = C) (he : W0[q0]? = some (a, .inr (ci, fs))) (WF : va_W) (hp : ws.Perm (W0 ++ WF)) (hnA : As.length = k9) (hcat : (rest.map fun v => v.category).sum ≤ 8) (hf : cells + mc ≤ R.cells ∧ slots + ms ≤ R.slots) (ws2 : S → va_W) (WX : S → va_W) (hp2 : ∀ u, (W1 u ++ WF).Perm (ws2 u ++ WX u)) (hn : pc + 3 = n) {st0 : List Value} (hst : As.reverse ++ .ref a :: rest = st0) (kk : ∀ (r : Int32) (u : S), post r u → ZZ p l e R s m args below meth c G A nL (cells + mc) (slots + ms) Q (ws2 u) lv n (.int r :: rest)) : ZZ p l e R s m args below meth c G A nL cells slots Q ws lv pc st0 := by
  subst hn; subst hst
  intro H locs ls hP hD hS hl
  have hP9 := wP_perm hP hp
  have hD9 := wD_perm hD hp
  have hPc := wP_left hP9
  have hDc := wD_left hD9
  have hK := hC.2.2.2.2.2.1
  have hFc := wfree hD9 hS hC.2.2.2.2.2.2.1
  subst hqc
  refine va_calli (va_runV (C := qc.1) (As := As) (rest := rest) (Ts := zAW) ⟨hC.1, hC.2.1, hC.2.2.1, hC.2.2.2.1, hC.2.2.2.2.1⟩ (hM H.size) (cwV k9 hC.2.2.2.2.1 hg rfl rfl rfl hd hR) ⟨fun a' U g mk q => ⟨q.1, cW_moved q.2⟩, va_recv hK hPc hcl he, fun U hU hW => ⟨rfl, by rw [hU], by rw [hU]; exact hPc, va_K.moved hW.alike hK, hDc.weaken (fun _ _ _ _ => trivial), zN_warm hW hC.2.2.2.2.2.2.2.1, zT_to hW hU hS hFc hC.2.2.2.2.2.2.2.2⟩⟩ rfl hnA hl.1 rfl (lv_room hcat) hdg hf) hS (fun q _ h => hFc q h) hFc (fun r u t H1 locs1 ht hvm hw hB hz1 hk1 hS1 => by
    obtain ⟨hP2, hD2⟩ := wpj hP9 hD9 hk1 hFc (ht ▸ hB.1) hB.2.2
    have hP3 := wP_left (wP_perm hP2 (hp2 u))
    have hD3 := wD_left (wD_perm hD2 (hp2 u))
    exact kk r u hw H1 locs1 ls hP3 hD3 hS1 hl)
theorem y_callVl {p : Program} {l : Launch} {e : Env} {R : Room} {s : State} {m : MethodId} {args : Array Value} {below : List Frame} {meth : Method} {c : Code} {cc : ByteArray} {nL : Nat} {own : String} {G : va_G} {tys : List (ClassId × FieldType)} {A : Nat → Prop} {cells slots : Nat} {Q : State → Prop} {ws : va_W} {lv : List (Nat × Value)} {pc n : Nat} {rest : List Value} (hC : Cx p s m args c cc nL own G tys A) {S : Type} {y : MethodName} {cy : ByteArray} {nl fr lo : Nat} {W0 : va_W} {post : Int64 → S → Prop} {W1 : S → va_W} {mc ms index k9 : Nat} {a : Nat} {As : List Value} {C : String} (hM : ML S l y cy nl fr lo G tys (.ref a :: As) W0 post W1 mc ms) (hg : GoodIn zAW (wsV own index C y (.code y cy nl (some .long) :: zAW))) (hd : y.cls = C ∧ y.cls ≠ "java/lang/invoke/MethodHandle" ∧ y.cls ≠ "java/lang/invoke/VarHandle" ∧ (parseMethodDescriptor y.desc).map (fun d => d.parameters.length) = some k9) (hdg : decode cc pc = .ok (.invokevirtual index, 3)) (hR : fr + 1 ≤ R.frames ∧ 8 + (nl + 11) + lo ≤ R.locals) (q0 : Nat) {ci : Nat} {fs : List Value} {qc : vw_C} (hcl : vwCl[ci]? = some qc) (hqc : qc.1 = C) (he : W0[q0]? = some (a, .inr (ci, fs))) (WF : va_W) (hp : ws.Perm (W0 ++ WF)) (hnA : As.length = k9) (hcat : (rest.map fun v => v.category).sum ≤ 8) (hf : cells + mc ≤ R.cells ∧ slots + ms ≤ R.slots) (ws2 : S → va_W) (WX : S → va_W) (hp2 : ∀ u, (W1 u ++ WF).Perm (ws2 u ++ WX u)) (hn : pc + 3 = n) {st0 : List Value} (hst : As.reverse ++ .ref a :: rest = st0) (kk : ∀ (r : Int64) (u : S), post r u → ZZ p l e R s m args below meth c G A nL (cells + mc) (slots + ms) Q (ws2 u) lv n (.long r :: rest)) : ZZ p l e R s m args below meth c G A nL cells slots Q ws lv pc st0 := by
  subst hn; subst hst
  intro H locs ls hP hD hS hl
  have hP9 := wP_perm hP hp
  have hD9 := wD_perm hD hp
  have hPc := wP_left hP9
  have hDc := wD_left hD9
  have hK := hC.2.2.2.2.2.1
  have hFc := wfree hD9 hS hC.2.2.2.2.2.2.1
  subst hqc
  refine va_calll (va_runV (C := qc.1) (As := As) (rest := rest) (Ts := zAW) ⟨hC.1, hC.2.1, hC.2.2.1, hC.2.2.2.1, hC.2.2.2.2.1⟩ (hM H.size) (cwV k9 hC.2.2.2.2.1 hg rfl rfl rfl hd hR) ⟨fun a' U g mk q => ⟨q.1, cW_moved q.2⟩, va_recv hK hPc hcl he, fun U hU hW => ⟨rfl, by rw [hU], by rw [hU]; exact hPc, va_K.moved hW.alike hK, hDc.weaken (fun _ _ _ _ => trivial), zN_warm hW hC.2.2.2.2.2.2.2.1, zT_to hW hU hS hFc hC.2.2.2.2.2.2.2.2⟩⟩ rfl hnA hl.1 rfl (lv_room hcat) hdg hf) hS (fun q _ h => hFc q h) hFc (fun r u t H1 locs1 ht hvm hw hB hz1 hk1 hS1 => by
    obtain ⟨hP2, hD2⟩ := wpj hP9 hD9 hk1 hFc (ht ▸ hB.1) hB.2.2
    have hP3 := wP_left (wP_perm hP2 (hp2 u))
    have hD3 := wD_left (wD_perm hD2 (hp2 u))
    exact kk r u hw H1 locs1 ls hP3 hD3 hS1 hl)
theorem y_callVd {p : Program} {l : Launch} {e : Env} {R : Room} {s : State} {m : MethodId} {args : Array Value} {below : List Frame} {meth : Method} {c : Code} {cc : ByteArray} {nL : Nat} {own : String} {G : va_G} {tys : List (ClassId × FieldType)} {A : Nat → Prop} {cells slots : Nat} {Q : State → Prop} {ws : va_W} {lv : List (Nat × Value)} {pc n : Nat} {rest : List Value} (hC : Cx p s m args c cc nL own G tys A) {S : Type} {y : MethodName} {cy : ByteArray} {nl fr lo : Nat} {W0 : va_W} {post : UInt64 → S → Prop} {W1 : S → va_W} {mc ms index k9 : Nat} {a : Nat} {As : List Value} {C : String} (hM : MD S l y cy nl fr lo G tys (.ref a :: As) W0 post W1 mc ms) (hg : GoodIn zAW (wsV own index C y (.code y cy nl (some .double) :: zAW))) (hd : y.cls = C ∧ y.cls ≠ "java/lang/invoke/MethodHandle" ∧ y.cls ≠ "java/lang/invoke/VarHandle" ∧ (parseMethodDescriptor y.desc).map (fun d => d.parameters.length) = some k9) (hdg : decode cc pc = .ok (.invokevirtual index, 3)) (hR : fr + 1 ≤ R.frames ∧ 8 + (nl + 11) + lo ≤ R.locals) (q0 : Nat) {ci : Nat} {fs : List Value} {qc : vw_C} (hcl : vwCl[ci]? = some qc) (hqc : qc.1 = C) (he : W0[q0]? = some (a, .inr (ci, fs))) (WF : va_W) (hp : ws.Perm (W0 ++ WF)) (hnA : As.length = k9) (hcat : (rest.map fun v => v.category).sum ≤ 8) (hf : cells + mc ≤ R.cells ∧ slots + ms ≤ R.slots) (ws2 : S → va_W) (WX : S → va_W) (hp2 : ∀ u, (W1 u ++ WF).Perm (ws2 u ++ WX u)) (hn : pc + 3 = n) {st0 : List Value} (hst : As.reverse ++ .ref a :: rest = st0) (kk : ∀ (r : UInt64) (u : S), post r u → ZZ p l e R s m args below meth c G A nL (cells + mc) (slots + ms) Q (ws2 u) lv n (.double r :: rest)) : ZZ p l e R s m args below meth c G A nL cells slots Q ws lv pc st0 := by
  subst hn; subst hst
  intro H locs ls hP hD hS hl
  have hP9 := wP_perm hP hp
  have hD9 := wD_perm hD hp
  have hPc := wP_left hP9
  have hDc := wD_left hD9
  have hK := hC.2.2.2.2.2.1
  have hFc := wfree hD9 hS hC.2.2.2.2.2.2.1
  subst hqc
  refine va_calld (va_runV (C := qc.1) (As := As) (rest := rest) (Ts := zAW) ⟨hC.1, hC.2.1, hC.2.2.1, hC.2.2.2.1, hC.2.2.2.2.1⟩ (hM H.size) (cwV k9 hC.2.2.2.2.1 hg rfl rfl rfl hd hR) ⟨fun a' U g mk q => ⟨q.1, cW_moved q.2⟩, va_recv hK hPc hcl he, fun U hU hW => ⟨rfl, by rw [hU], by rw [hU]; exact hPc, va_K.moved hW.alike hK, hDc.weaken (fun _ _ _ _ => trivial), zN_warm hW hC.2.2.2.2.2.2.2.1, zT_to hW hU hS hFc hC.2.2.2.2.2.2.2.2⟩⟩ rfl hnA hl.1 rfl (lv_room hcat) hdg hf) hS (fun q _ h => hFc q h) hFc (fun r u t H1 locs1 ht hvm hw hB hz1 hk1 hS1 => by
    obtain ⟨hP2, hD2⟩ := wpj hP9 hD9 hk1 hFc (ht ▸ hB.1) hB.2.2
    have hP3 := wP_left (wP_perm hP2 (hp2 u))
    have hD3 := wD_left (wD_perm hD2 (hp2 u))
    exact kk r u hw H1 locs1 ls hP3 hD3 hS1 hl)
theorem y_callVv {p : Program} {l : Launch} {e : Env} {R : Room} {s : State} {m : MethodId} {args : Array Value} {below : List Frame} {meth : Method} {c : Code} {cc : ByteArray} {nL : Nat} {own : String} {G : va_G} {tys : List (ClassId × FieldType)} {A : Nat → Prop} {cells slots : Nat} {Q : State → Prop} {ws : va_W} {lv : List (Nat × Value)} {pc n : Nat} {rest : List Value} (hC : Cx p s m args c cc nL own G tys A) {S : Type} {y : MethodName} {cy : ByteArray} {nl fr lo : Nat} {W0 : va_W} {post : S → Prop} {W1 : S → va_W} {mc ms index k9 : Nat} {a : Nat} {As : List Value} {C : String} (hM : MV S l y cy nl fr lo G tys (.ref a :: As) W0 post W1 mc ms) (hg : GoodIn zAW (wsV own index C y (.code y cy nl (none) :: zAW))) (hd : y.cls = C ∧ y.cls ≠ "java/lang/invoke/MethodHandle" ∧ y.cls ≠ "java/lang/invoke/VarHandle" ∧ (parseMethodDescriptor y.desc).map (fun d => d.parameters.length) = some k9) (hdg : decode cc pc = .ok (.invokevirtual index, 3)) (hR : fr + 1 ≤ R.frames ∧ 8 + (nl + 11) + lo ≤ R.locals) (q0 : Nat) {ci : Nat} {fs : List Value} {qc : vw_C} (hcl : vwCl[ci]? = some qc) (hqc : qc.1 = C) (he : W0[q0]? = some (a, .inr (ci, fs))) (WF : va_W) (hp : ws.Perm (W0 ++ WF)) (hnA : As.length = k9) (hcat : (rest.map fun v => v.category).sum ≤ 8) (hf : cells + mc ≤ R.cells ∧ slots + ms ≤ R.slots) (ws2 : S → va_W) (WX : S → va_W) (hp2 : ∀ u, (W1 u ++ WF).Perm (ws2 u ++ WX u)) (hn : pc + 3 = n) {st0 : List Value} (hst : As.reverse ++ .ref a :: rest = st0) (kk : ∀ (u : S), post u → ZZ p l e R s m args below meth c G A nL (cells + mc) (slots + ms) Q (ws2 u) lv n rest) : ZZ p l e R s m args below meth c G A nL cells slots Q ws lv pc st0 := by
  subst hn; subst hst
  intro H locs ls hP hD hS hl
  have hP9 := wP_perm hP hp
  have hD9 := wD_perm hD hp
  have hPc := wP_left hP9
  have hDc := wD_left hD9
  have hK := hC.2.2.2.2.2.1
  have hFc := wfree hD9 hS hC.2.2.2.2.2.2.1
  subst hqc
  refine va_callv (va_runV (C := qc.1) (As := As) (rest := rest) (Ts := zAW) ⟨hC.1, hC.2.1, hC.2.2.1, hC.2.2.2.1, hC.2.2.2.2.1⟩ (hM H.size) (cwV k9 hC.2.2.2.2.1 hg rfl rfl rfl hd hR) ⟨fun a' U g mk q => ⟨q.1, cW_moved q.2⟩, va_recv hK hPc hcl he, fun U hU hW => ⟨rfl, by rw [hU], by rw [hU]; exact hPc, va_K.moved hW.alike hK, hDc.weaken (fun _ _ _ _ => trivial), zN_warm hW hC.2.2.2.2.2.2.2.1, zT_to hW hU hS hFc hC.2.2.2.2.2.2.2.2⟩⟩ rfl hnA hl.1 rfl (lv_room hcat) hdg hf) hS (fun q _ h => hFc q h) hFc (fun u t H1 locs1 ht hvm hw hB hz1 hk1 hS1 => by
    obtain ⟨hP2, hD2⟩ := wpj hP9 hD9 hk1 hFc (ht ▸ hB.1) hB.2.2
    have hP3 := wP_left (wP_perm hP2 (hp2 u))
    have hD3 := wD_left (wD_perm hD2 (hp2 u))
    exact kk u hw H1 locs1 ls hP3 hD3 hS1 hl)
theorem y_callVr {p : Program} {l : Launch} {e : Env} {R : Room} {s : State} {m : MethodId} {args : Array Value} {below : List Frame} {meth : Method} {c : Code} {cc : ByteArray} {nL : Nat} {own : String} {G : va_G} {tys : List (ClassId × FieldType)} {A : Nat → Prop} {cells slots : Nat} {Q : State → Prop} {ws : va_W} {lv : List (Nat × Value)} {pc n : Nat} {rest : List Value} (hC : Cx p s m args c cc nL own G tys A) {S : Type} {y : MethodName} {cy : ByteArray} {nl fr lo : Nat} {rt : FieldType} {adr : S → Nat} {W0 : va_W} {post : S → Prop} {W1 : S → va_W} {mc ms index k9 : Nat} {a : Nat} {As : List Value} {C : String} (hM : MR S l y cy nl fr lo rt G tys (.ref a :: As) W0 post adr W1 mc ms) (hg : GoodIn zAW (wsV own index C y (.code y cy nl (some rt) :: zAW))) (hd : y.cls = C ∧ y.cls ≠ "java/lang/invoke/MethodHandle" ∧ y.cls ≠ "java/lang/invoke/VarHandle" ∧ (parseMethodDescriptor y.desc).map (fun d => d.parameters.length) = some k9) (hdg : decode cc pc = .ok (.invokevirtual index, 3)) (hR : fr + 1 ≤ R.frames ∧ 8 + (nl + 11) + lo ≤ R.locals) (q0 : Nat) {ci : Nat} {fs : List Value} {qc : vw_C} (hcl : vwCl[ci]? = some qc) (hqc : qc.1 = C) (he : W0[q0]? = some (a, .inr (ci, fs))) (WF : va_W) (hp : ws.Perm (W0 ++ WF)) (hnA : As.length = k9) (hcat : (rest.map fun v => v.category).sum ≤ 8) (hf : cells + mc ≤ R.cells ∧ slots + ms ≤ R.slots) (ws2 : S → va_W) (WX : S → va_W) (hp2 : ∀ u, (W1 u ++ WF).Perm (ws2 u ++ WX u)) (hn : pc + 3 = n) {st0 : List Value} (hst : As.reverse ++ .ref a :: rest = st0) (kk : ∀ (u : S), post u → ZZ p l e R s m args below meth c G A nL (cells + mc) (slots + ms) Q (ws2 u) lv n (.ref (adr u) :: rest)) : ZZ p l e R s m args below meth c G A nL cells slots Q ws lv pc st0 := by
  subst hn; subst hst
  intro H locs ls hP hD hS hl
  have hP9 := wP_perm hP hp
  have hD9 := wD_perm hD hp
  have hPc := wP_left hP9
  have hDc := wD_left hD9
  have hK := hC.2.2.2.2.2.1
  have hFc := wfree hD9 hS hC.2.2.2.2.2.2.1
  subst hqc
  refine va_callr (va_runV (C := qc.1) (As := As) (rest := rest) (Ts := zAW) ⟨hC.1, hC.2.1, hC.2.2.1, hC.2.2.2.1, hC.2.2.2.2.1⟩ (hM H.size) (cwV k9 hC.2.2.2.2.1 hg rfl rfl rfl hd hR) ⟨fun a' U g mk q => ⟨q.1, cW_moved q.2⟩, va_recv hK hPc hcl he, fun U hU hW => ⟨rfl, by rw [hU], by rw [hU]; exact hPc, va_K.moved hW.alike hK, hDc.weaken (fun _ _ _ _ => trivial), zN_warm hW hC.2.2.2.2.2.2.2.1, zT_to hW hU hS hFc hC.2.2.2.2.2.2.2.2⟩⟩ rfl hnA hl.1 rfl (lv_room hcat) hdg hf) hS (fun q _ h => hFc q h) hFc (fun u ra t H1 locs1 ht hvm hw hB hz1 hk1 hS1 => by
    obtain ⟨rfl, hB⟩ := hB
    obtain ⟨hP2, hD2⟩ := wpj hP9 hD9 hk1 hFc (ht ▸ hB.1) hB.2.2
    have hP3 := wP_left (wP_perm hP2 (hp2 u))
    have hD3 := wD_left (wD_perm hD2 (hp2 u))
    exact kk u hw H1 locs1 ls hP3 hD3 hS1 hl)
theorem y_callVb {p : Program} {l : Launch} {e : Env} {R : Room} {s : State} {m : MethodId} {args : Array Value} {below : List Frame} {meth : Method} {c : Code} {cc : ByteArray} {nL : Nat} {own : String} {G : va_G} {tys : List (ClassId × FieldType)} {A : Nat → Prop} {cells slots : Nat} {Q : State → Prop} {ws : va_W} {lv : List (Nat × Value)} {pc n : Nat} {rest : List Value} (hC : Cx p s m args c cc nL own G tys A) {S : Type} {y : MethodName} {cy : ByteArray} {nl fr lo : Nat} {W0 : va_W} {post : Int32 → S → Prop} {W1 : S → va_W} {mc ms index k9 : Nat} {a : Nat} {As : List Value} {C : String} (hM : MB S l y cy nl fr lo G tys (.ref a :: As) W0 post W1 mc ms) (hg : GoodIn zAW (wsV own index C y (.code y cy nl (some .boolean) :: zAW))) (hd : y.cls = C ∧ y.cls ≠ "java/lang/invoke/MethodHandle" ∧ y.cls ≠ "java/lang/invoke/VarHandle" ∧ (parseMethodDescriptor y.desc).map (fun d => d.parameters.length) = some k9) (hdg : decode cc pc = .ok (.invokevirtual index, 3)) (hR : fr + 1 ≤ R.frames ∧ 8 + (nl + 11) + lo ≤ R.locals) (q0 : Nat) {ci : Nat} {fs : List Value} {qc : vw_C} (hcl : vwCl[ci]? = some qc) (hqc : qc.1 = C) (he : W0[q0]? = some (a, .inr (ci, fs))) (WF : va_W) (hp : ws.Perm (W0 ++ WF)) (hnA : As.length = k9) (hcat : (rest.map fun v => v.category).sum ≤ 8) (hf : cells + mc ≤ R.cells ∧ slots + ms ≤ R.slots) (ws2 : S → va_W) (WX : S → va_W) (hp2 : ∀ u, (W1 u ++ WF).Perm (ws2 u ++ WX u)) (hn : pc + 3 = n) {st0 : List Value} (hst : As.reverse ++ .ref a :: rest = st0) (kk : ∀ (r : Int32) (u : S), post r u → ZZ p l e R s m args below meth c G A nL (cells + mc) (slots + ms) Q (ws2 u) lv n (.int r :: rest)) : ZZ p l e R s m args below meth c G A nL cells slots Q ws lv pc st0 := by
  subst hn; subst hst
  intro H locs ls hP hD hS hl
  have hP9 := wP_perm hP hp
  have hD9 := wD_perm hD hp
  have hPc := wP_left hP9
  have hDc := wD_left hD9
  have hK := hC.2.2.2.2.2.1
  have hFc := wfree hD9 hS hC.2.2.2.2.2.2.1
  subst hqc
  refine va_calli (va_runV (C := qc.1) (As := As) (rest := rest) (Ts := zAW) ⟨hC.1, hC.2.1, hC.2.2.1, hC.2.2.2.1, hC.2.2.2.2.1⟩ (hM H.size) (cwV k9 hC.2.2.2.2.1 hg rfl rfl rfl hd hR) ⟨fun a' U g mk q => ⟨q.1, cW_moved q.2⟩, va_recv hK hPc hcl he, fun U hU hW => ⟨rfl, by rw [hU], by rw [hU]; exact hPc, va_K.moved hW.alike hK, hDc.weaken (fun _ _ _ _ => trivial), zN_warm hW hC.2.2.2.2.2.2.2.1, zT_to hW hU hS hFc hC.2.2.2.2.2.2.2.2⟩⟩ rfl hnA hl.1 rfl (lv_room hcat) hdg hf) hS (fun q _ h => hFc q h) hFc (fun r u t H1 locs1 ht hvm hw hB hz1 hk1 hS1 => by
    obtain ⟨hP2, hD2⟩ := wpj hP9 hD9 hk1 hFc (ht ▸ hB.1) hB.2.2
    have hP3 := wP_left (wP_perm hP2 (hp2 u))
    have hD3 := wD_left (wD_perm hD2 (hp2 u))
    exact kk r u hw H1 locs1 ls hP3 hD3 hS1 hl)
theorem y_callSi {p : Program} {l : Launch} {e : Env} {R : Room} {s : State} {m : MethodId} {args : Array Value} {below : List Frame} {meth : Method} {c : Code} {cc : ByteArray} {nL : Nat} {own : String} {G : va_G} {tys : List (ClassId × FieldType)} {A : Nat → Prop} {cells slots : Nat} {Q : State → Prop} {ws : va_W} {lv : List (Nat × Value)} {pc n : Nat} {rest : List Value} (hC : Cx p s m args c cc nL own G tys A) {S : Type} {y : MethodName} {cy : ByteArray} {nl fr lo : Nat} {W0 : va_W} {post : Int32 → S → Prop} {W1 : S → va_W} {mc ms index k9 : Nat} {As : List Value} (hM : MI S l y cy nl fr lo G tys As W0 post W1 mc ms) (hg : GoodIn zAW (va_wsS own index y (.code y cy nl (some .int) :: zAW))) (hd : y.cls ≠ "java/lang/invoke/MethodHandle" ∧ y.cls ≠ "java/lang/invoke/VarHandle" ∧ (parseMethodDescriptor y.desc).map (fun d => d.parameters.length) = some k9) (hdg : decode cc pc = .ok (.invokestatic index, 3)) (hR : fr + 1 ≤ R.frames ∧ 8 + (nl + 11) + lo ≤ R.locals) (WF : va_W) (hp : ws.Perm (W0 ++ WF)) (hnA : As.length = k9) (hcat : (rest.map fun v => v.category).sum ≤ 8) (hf : cells + mc ≤ R.cells ∧ slots + ms ≤ R.slots) (ws2 : S → va_W) (WX : S → va_W) (hp2 : ∀ u, (W1 u ++ WF).Perm (ws2 u ++ WX u)) (hn : pc + 3 = n) {st0 : List Value} (hst : As.reverse ++ rest = st0) (kk : ∀ (r : Int32) (u : S), post r u → ZZ p l e R s m args below meth c G A nL (cells + mc) (slots + ms) Q (ws2 u) lv n (.int r :: rest)) : ZZ p l e R s m args below meth c G A nL cells slots Q ws lv pc st0 := by
  subst hn; subst hst
  intro H locs ls hP hD hS hl
  have hP9 := wP_perm hP hp
  have hD9 := wD_perm hD hp
  have hPc := wP_left hP9
  have hDc := wD_left hD9
  have hK := hC.2.2.2.2.2.1
  have hFc := wfree hD9 hS hC.2.2.2.2.2.2.1
  refine va_calli (va_runS (As := As) (rest := rest) (Ts := zAW) ⟨hC.1, hC.2.1, hC.2.2.1, hC.2.2.2.1, hC.2.2.2.2.1⟩ (hM H.size) (va_cwS k9 hC.2.2.2.2.1 hg rfl rfl rfl hd hR) ⟨fun a' U g mk q => ⟨q.1, cW_moved q.2⟩, fun U hU hW => ⟨rfl, by rw [hU], by rw [hU]; exact hPc, va_K.moved hW.alike hK, hDc.weaken (fun _ _ _ _ => trivial), zN_warm hW hC.2.2.2.2.2.2.2.1, zT_to hW hU hS hFc hC.2.2.2.2.2.2.2.2⟩⟩ rfl hnA hl.1 rfl (lv_room hcat) hdg hf) hS (fun q _ h => hFc q h) hFc (fun r u t H1 locs1 ht hvm hw hB hz1 hk1 hS1 => by
    obtain ⟨hP2, hD2⟩ := wpj hP9 hD9 hk1 hFc (ht ▸ hB.1) hB.2.2
    have hP3 := wP_left (wP_perm hP2 (hp2 u))
    have hD3 := wD_left (wD_perm hD2 (hp2 u))
    exact kk r u hw H1 locs1 ls hP3 hD3 hS1 hl)
theorem y_callSbH {p : Program} {l : Launch} {e : Env} {R : Room} {s : State} {m : MethodId} {args : Array Value} {below : List Frame} {meth : Method} {c : Code} {cc : ByteArray} {nL : Nat} {own : String} {G : va_G} {tys : List (ClassId × FieldType)} {A : Nat → Prop} {cells slots : Nat} {Q : State → Prop} {ws : va_W} {lv : List (Nat × Value)} {pc n : Nat} {rest : List Value} (hC : Cx p s m args c cc nL own G tys A) {S : Type} {y : MethodName} {cy : ByteArray} {nl fr lo : Nat} {hh : List (Nat × Nat × Nat × Nat)} {W0 : va_W} {post : Int32 → S → Prop} {W1 : S → va_W} {mc ms index k9 : Nat} {As : List Value} (hM : MBH S l y cy nl fr lo hh G tys As W0 post W1 mc ms) (hg : GoodIn zAW (va_wsS own index y (.codeWith y cy nl (some .boolean) hh :: zAW))) (hd : y.cls ≠ "java/lang/invoke/MethodHandle" ∧ y.cls ≠ "java/lang/invoke/VarHandle" ∧ (parseMethodDescriptor y.desc).map (fun d => d.parameters.length) = some k9) (hdg : decode cc pc = .ok (.invokestatic index, 3)) (hR : fr + 1 ≤ R.frames ∧ 8 + (nl + 11) + lo ≤ R.locals) (WF : va_W) (hp : ws.Perm (W0 ++ WF)) (hnA : As.length = k9) (hcat : (rest.map fun v => v.category).sum ≤ 8) (hf : cells + mc ≤ R.cells ∧ slots + ms ≤ R.slots) (ws2 : S → va_W) (WX : S → va_W) (hp2 : ∀ u, (W1 u ++ WF).Perm (ws2 u ++ WX u)) (hn : pc + 3 = n) {st0 : List Value} (hst : As.reverse ++ rest = st0) (kk : ∀ (r : Int32) (u : S), post r u → ZZ p l e R s m args below meth c G A nL (cells + mc) (slots + ms) Q (ws2 u) lv n (.int r :: rest)) : ZZ p l e R s m args below meth c G A nL cells slots Q ws lv pc st0 := by
  subst hn; subst hst
  intro H locs ls hP hD hS hl
  have hP9 := wP_perm hP hp
  have hD9 := wD_perm hD hp
  have hPc := wP_left hP9
  have hDc := wD_left hD9
  have hK := hC.2.2.2.2.2.1
  have hFc := wfree hD9 hS hC.2.2.2.2.2.2.1
  refine va_calli (vx_runSW (As := As) (rest := rest) (Ts := zAW) ⟨hC.1, hC.2.1, hC.2.2.1, hC.2.2.2.1, hC.2.2.2.2.1⟩ (hM H.size) (vx_cwSW k9 hC.2.2.2.2.1 hg rfl rfl rfl hd hR) ⟨fun a' U g mk q => ⟨q.1, cW_moved q.2⟩, fun U hU hW => ⟨rfl, by rw [hU], by rw [hU]; exact hPc, va_K.moved hW.alike hK, hDc.weaken (fun _ _ _ _ => trivial), zN_warm hW hC.2.2.2.2.2.2.2.1, zT_to hW hU hS hFc hC.2.2.2.2.2.2.2.2⟩⟩ rfl hnA hl.1 rfl (lv_room hcat) hdg hf) hS (fun q _ h => hFc q h) hFc (fun r u t H1 locs1 ht hvm hw hB hz1 hk1 hS1 => by
    obtain ⟨hP2, hD2⟩ := wpj hP9 hD9 hk1 hFc (ht ▸ hB.1) hB.2.2
    have hP3 := wP_left (wP_perm hP2 (hp2 u))
    have hD3 := wD_left (wD_perm hD2 (hp2 u))
    exact kk r u hw H1 locs1 ls hP3 hD3 hS1 hl)
theorem y_callSrK {p : Program} {l : Launch} {e : Env} {R : Room} {s : State} {m : MethodId} {args : Array Value} {below : List Frame} {meth : Method} {c : Code} {cc : ByteArray} {nL : Nat} {own : String} {G : va_G} {tys : List (ClassId × FieldType)} {A : Nat → Prop} {cells slots : Nat} {Q : State → Prop} {ws : va_W} {lv : List (Nat × Value)} {pc n : Nat} {rest : List Value} (hC : Cx p s m args c cc nL own G tys A) {S : Type} {y : MethodName} {cy : ByteArray} {nl fr lo : Nat} {rt : FieldType} {adr : S → Nat} {b0 L : Nat} {xs : Nat → Int32} {W0 : va_W} {post : S → Prop} {W1 : S → va_W} {mc ms index k9 : Nat} {As : List Value} (hM : MRK b0 L xs S l y cy nl fr lo rt G tys As W0 post adr W1 mc ms) (hg : GoodIn zAW (va_wsS own index y (.code y cy nl (some rt) :: zAW))) (hd : y.cls ≠ "java/lang/invoke/MethodHandle" ∧ y.cls ≠ "java/lang/invoke/VarHandle" ∧ (parseMethodDescriptor y.desc).map (fun d => d.parameters.length) = some k9) (hdg : decode cc pc = .ok (.invokestatic index, 3)) (hR : fr + 1 ≤ R.frames ∧ 8 + (nl + 11) + lo ≤ R.locals) (hX : va_X b0 L xs s s.heap) (hb0 : b0 < s.heap.size) (hbA : ¬ A b0) (WF : va_W) (hp : ws.Perm (W0 ++ WF)) (hnA : As.length = k9) (hcat : (rest.map fun v => v.category).sum ≤ 8) (hf : cells + mc ≤ R.cells ∧ slots + ms ≤ R.slots) (ws2 : S → va_W) (WX : S → va_W) (hp2 : ∀ u, (W1 u ++ WF).Perm (ws2 u ++ WX u)) (hn : pc + 3 = n) {st0 : List Value} (hst : As.reverse ++ rest = st0) (kk : ∀ (u : S), post u → ZZ p l e R s m args below meth c G A nL (cells + mc) (slots + ms) Q (ws2 u) lv n (.ref (adr u) :: rest)) : ZZ p l e R s m args below meth c G A nL cells slots Q ws lv pc st0 := by
  subst hn; subst hst
  intro H locs ls hP hD hS hl
  have hP9 := wP_perm hP hp
  have hD9 := wD_perm hD hp
  have hPc := wP_left hP9
  have hDc := wD_left hD9
  have hK := hC.2.2.2.2.2.1
  have hFc := wfree hD9 hS hC.2.2.2.2.2.2.1
  refine va_callr (va_runS (As := As) (rest := rest) (Ts := zAW) ⟨hC.1, hC.2.1, hC.2.2.1, hC.2.2.2.1, hC.2.2.2.2.1⟩ (hM H.size) (va_cwS k9 hC.2.2.2.2.1 hg rfl rfl rfl hd hR) ⟨fun a' U g mk q => ⟨q.1, cW_moved q.2.1, zK_moved q.2.2⟩, fun U hU hW => ⟨rfl, ⟨by rw [hU], by rw [hU]; exact hPc, va_K.moved hW.alike hK, hDc.weaken (fun _ _ _ _ => trivial), zN_warm hW hC.2.2.2.2.2.2.2.1, zT_to hW hU hS hFc hC.2.2.2.2.2.2.2.2⟩, zK_to hW hU hS hD9 hX hb0 hbA⟩⟩ rfl hnA hl.1 rfl (lv_room hcat) hdg hf) hS (fun q _ h => hFc q h) hFc (fun u ra t H1 locs1 ht hvm hw hB hz1 hk1 hS1 => by
    obtain ⟨rfl, hB⟩ := hB
    obtain ⟨hP2, hD2⟩ := wpj hP9 hD9 hk1 hFc (ht ▸ hB.1) hB.2.2
    have hP3 := wP_left (wP_perm hP2 (hp2 u))
    have hD3 := wD_left (wD_perm hD2 (hp2 u))
    exact kk u hw H1 locs1 ls hP3 hD3 hS1 hl)
theorem y_callSiK {p : Program} {l : Launch} {e : Env} {R : Room} {s : State} {m : MethodId} {args : Array Value} {below : List Frame} {meth : Method} {c : Code} {cc : ByteArray} {nL : Nat} {own : String} {G : va_G} {tys : List (ClassId × FieldType)} {A : Nat → Prop} {cells slots : Nat} {Q : State → Prop} {ws : va_W} {lv : List (Nat × Value)} {pc n : Nat} {rest : List Value} (hC : Cx p s m args c cc nL own G tys A) {S : Type} {y : MethodName} {cy : ByteArray} {nl fr lo : Nat} {b0 L : Nat} {xs : Nat → Int32} {W0 : va_W} {post : Int32 → S → Prop} {W1 : S → va_W} {mc ms index k9 : Nat} {As : List Value} (hM : MIK b0 L xs S l y cy nl fr lo G tys As W0 post W1 mc ms) (hg : GoodIn zAW (va_wsS own index y (.code y cy nl (some .int) :: zAW))) (hd : y.cls ≠ "java/lang/invoke/MethodHandle" ∧ y.cls ≠ "java/lang/invoke/VarHandle" ∧ (parseMethodDescriptor y.desc).map (fun d => d.parameters.length) = some k9) (hdg : decode cc pc = .ok (.invokestatic index, 3)) (hR : fr + 1 ≤ R.frames ∧ 8 + (nl + 11) + lo ≤ R.locals) (hX : va_X b0 L xs s s.heap) (hb0 : b0 < s.heap.size) (hbA : ¬ A b0) (WF : va_W) (hp : ws.Perm (W0 ++ WF)) (hnA : As.length = k9) (hcat : (rest.map fun v => v.category).sum ≤ 8) (hf : cells + mc ≤ R.cells ∧ slots + ms ≤ R.slots) (ws2 : S → va_W) (WX : S → va_W) (hp2 : ∀ u, (W1 u ++ WF).Perm (ws2 u ++ WX u)) (hn : pc + 3 = n) {st0 : List Value} (hst : As.reverse ++ rest = st0) (kk : ∀ (r : Int32) (u : S), post r u → ZZ p l e R s m args below meth c G A nL (cells + mc) (slots + ms) Q (ws2 u) lv n (.int r :: rest)) : ZZ p l e R s m args below meth c G A nL cells slots Q ws lv pc st0 := by
  subst hn; subst hst
  intro H locs ls hP hD hS hl
  have hP9 := wP_perm hP hp
  have hD9 := wD_perm hD hp
  have hPc := wP_left hP9
  have hDc := wD_left hD9
  have hK := hC.2.2.2.2.2.1
  have hFc := wfree hD9 hS hC.2.2.2.2.2.2.1
  refine va_calli (va_runS (As := As) (rest := rest) (Ts := zAW) ⟨hC.1, hC.2.1, hC.2.2.1, hC.2.2.2.1, hC.2.2.2.2.1⟩ (hM H.size) (va_cwS k9 hC.2.2.2.2.1 hg rfl rfl rfl hd hR) ⟨fun a' U g mk q => ⟨q.1, cW_moved q.2.1, zK_moved q.2.2⟩, fun U hU hW => ⟨rfl, ⟨by rw [hU], by rw [hU]; exact hPc, va_K.moved hW.alike hK, hDc.weaken (fun _ _ _ _ => trivial), zN_warm hW hC.2.2.2.2.2.2.2.1, zT_to hW hU hS hFc hC.2.2.2.2.2.2.2.2⟩, zK_to hW hU hS hD9 hX hb0 hbA⟩⟩ rfl hnA hl.1 rfl (lv_room hcat) hdg hf) hS (fun q _ h => hFc q h) hFc (fun r u t H1 locs1 ht hvm hw hB hz1 hk1 hS1 => by
    obtain ⟨hP2, hD2⟩ := wpj hP9 hD9 hk1 hFc (ht ▸ hB.1) hB.2.2
    have hP3 := wP_left (wP_perm hP2 (hp2 u))
    have hD3 := wD_left (wD_perm hD2 (hp2 u))
    exact kk r u hw H1 locs1 ls hP3 hD3 hS1 hl)
theorem y_callIv {p : Program} {l : Launch} {e : Env} {R : Room} {s : State} {m : MethodId} {args : Array Value} {below : List Frame} {meth : Method} {c : Code} {cc : ByteArray} {nL : Nat} {own : String} {G : va_G} {tys : List (ClassId × FieldType)} {A : Nat → Prop} {cells slots : Nat} {Q : State → Prop} {ws : va_W} {lv : List (Nat × Value)} {pc n : Nat} {rest : List Value} (hC : Cx p s m args c cc nL own G tys A) {S : Type} {y : MethodName} {cy : ByteArray} {nl fr lo : Nat} {W0 : va_W} {post : S → Prop} {W1 : S → va_W} {mc ms index : Nat} {a : Nat} (hM : MV S l y cy nl fr lo G tys [.ref a] W0 post W1 mc ms) (hg : GoodIn zAW (.code y cy nl (none) :: zAW)) (hlk : Cond.methodLink own index y ∈ zAW) (hin : Cond.instanceMethod y ∈ zAW) (hix : Cond.initialized y.cls ∈ zAW) (hy1 : y.name = "<init>") (hd : y.cls ≠ "java/lang/invoke/MethodHandle" ∧ y.cls ≠ "java/lang/invoke/VarHandle" ∧ (parseMethodDescriptor y.desc).map (fun d => d.parameters.length) = some 0) (hdg : decode cc pc = .ok (.invokespecial index, 3)) (hR : fr + 1 ≤ R.frames ∧ 8 + (nl + 11) + lo ≤ R.locals) (WF : va_W) (hp : ws.Perm (W0 ++ WF)) (hcat : (rest.map fun v => v.category).sum ≤ 8) (hf : cells + mc ≤ R.cells ∧ slots + ms ≤ R.slots) (ws2 : S → va_W) (WX : S → va_W) (hp2 : ∀ u, (W1 u ++ WF).Perm (ws2 u ++ WX u)) (hn : pc + 3 = n) {st0 : List Value} (hst : .ref a :: rest = st0) (kk : ∀ (u : S), post u → ZZ p l e R s m args below meth c G A nL (cells + mc) (slots + ms) Q (ws2 u) lv n rest) : ZZ p l e R s m args below meth c G A nL cells slots Q ws lv pc st0 := by
  subst hn; subst hst
  intro H locs ls hP hD hS hl
  have hP9 := wP_perm hP hp
  have hD9 := wD_perm hD hp
  have hPc := wP_left hP9
  have hDc := wD_left hD9
  have hK := hC.2.2.2.2.2.1
  have hFc := wfree hD9 hS hC.2.2.2.2.2.2.1
  refine va_callv (va_runI (As := []) (rest := rest) (Ts := zAW) ⟨hC.1, hC.2.1, hC.2.2.1, hC.2.2.2.1, hC.2.2.2.2.1⟩ (hM H.size) (cwI 0 hC.2.2.2.2.1 hg rfl rfl rfl (hC.2.2.2.2.1 _ hix) (hC.2.2.2.2.1 _ hlk) (hC.2.2.2.2.1 _ hin) hy1 hd hR) ⟨fun a' U g mk q => ⟨q.1, cW_moved q.2⟩, fun U hU hW => ⟨rfl, by rw [hU], by rw [hU]; exact hPc, va_K.moved hW.alike hK, hDc.weaken (fun _ _ _ _ => trivial), zN_warm hW hC.2.2.2.2.2.2.2.1, zT_to hW hU hS hFc hC.2.2.2.2.2.2.2.2⟩⟩ rfl rfl hl.1 rfl (lv_room hcat) hdg hf) hS (fun q _ h => hFc q h) hFc (fun u t H1 locs1 ht hvm hw hB hz1 hk1 hS1 => by
    obtain ⟨hP2, hD2⟩ := wpj hP9 hD9 hk1 hFc (ht ▸ hB.1) hB.2.2
    have hP3 := wP_left (wP_perm hP2 (hp2 u))
    have hD3 := wD_left (wD_perm hD2 (hp2 u))
    exact kk u hw H1 locs1 ls hP3 hD3 hS1 hl)
theorem y_callNv {p : Program} {l : Launch} {e : Env} {R : Room} {s : State} {m : MethodId} {args : Array Value} {below : List Frame} {meth : Method} {c : Code} {cc : ByteArray} {nL : Nat} {own : String} {G : va_G} {tys : List (ClassId × FieldType)} {A : Nat → Prop} {cells slots : Nat} {Q : State → Prop} {ws : va_W} {lv : List (Nat × Value)} {pc n : Nat} {rest : List Value} (hC : Cx p s m args c cc nL own G tys A) {S : Type} {y : MethodName} {cy : ByteArray} {nl fr lo : Nat} {W0 : va_W} {post : S → Prop} {W1 : S → va_W} {mc ms index : Nat} {a : Nat} (hM : MV S l y cy nl fr lo G tys [.ref a] W0 post W1 mc ms) (hg : GoodIn zAW (.code y cy nl (none) :: zAW)) {host : String} (hne : Cond.methodLinkNest own index y host ∈ zNW) (hin : Cond.instanceMethod y ∈ zAW) (hix : Cond.initialized y.cls ∈ zAW) (hy1 : y.name = "<init>") (hd : y.cls ≠ "java/lang/invoke/MethodHandle" ∧ y.cls ≠ "java/lang/invoke/VarHandle" ∧ (parseMethodDescriptor y.desc).map (fun d => d.parameters.length) = some 0) (hdg : decode cc pc = .ok (.invokespecial index, 3)) (hR : fr + 1 ≤ R.frames ∧ 8 + (nl + 11) + lo ≤ R.locals) (WF : va_W) (hp : ws.Perm (W0 ++ WF)) (hcat : (rest.map fun v => v.category).sum ≤ 8) (hf : cells + mc ≤ R.cells ∧ slots + ms ≤ R.slots) (ws2 : S → va_W) (WX : S → va_W) (hp2 : ∀ u, (W1 u ++ WF).Perm (ws2 u ++ WX u)) (hn : pc + 3 = n) {st0 : List Value} (hst : .ref a :: rest = st0) (kk : ∀ (u : S), post u → ZZ p l e R s m args below meth c G A nL (cells + mc) (slots + ms) Q (ws2 u) lv n rest) : ZZ p l e R s m args below meth c G A nL cells slots Q ws lv pc st0 := by
  subst hn; subst hst
  intro H locs ls hP hD hS hl
  have hP9 := wP_perm hP hp
  have hD9 := wD_perm hD hp
  have hPc := wP_left hP9
  have hDc := wD_left hD9
  have hK := hC.2.2.2.2.2.1
  have hFc := wfree hD9 hS hC.2.2.2.2.2.2.1
  refine va_callv (va_runIN (As := []) (rest := rest) (Ts := zAW) ⟨hC.1, hC.2.1, hC.2.2.1, hC.2.2.2.1, hC.2.2.2.2.1⟩ (hM H.size) ⟨va_cnB 0 hC.2.2.2.2.1 hg rfl rfl rfl (hC.2.2.2.2.2.2.2.1.1 _ hne) (hC.2.2.2.2.1 _ hix) hd hR, hy1, hC.2.2.2.2.1 _ hin⟩ ⟨fun a' U g mk q => ⟨q.1, cW_moved q.2⟩, fun U hU hW => ⟨rfl, by rw [hU], by rw [hU]; exact hPc, va_K.moved hW.alike hK, hDc.weaken (fun _ _ _ _ => trivial), zN_warm hW hC.2.2.2.2.2.2.2.1, zT_to hW hU hS hFc hC.2.2.2.2.2.2.2.2⟩⟩ rfl rfl hl.1 rfl (lv_room hcat) hdg hf) hS (fun q _ h => hFc q h) hFc (fun u t H1 locs1 ht hvm hw hB hz1 hk1 hS1 => by
    obtain ⟨hP2, hD2⟩ := wpj hP9 hD9 hk1 hFc (ht ▸ hB.1) hB.2.2
    have hP3 := wP_left (wP_perm hP2 (hp2 u))
    have hD3 := wD_left (wD_perm hD2 (hp2 u))
    exact kk u hw H1 locs1 ls hP3 hD3 hS1 hl)
