/-! constructors: new objects and arrays, calls that give back new cells -/
theorem z_newaZ {p : Program} {l : Launch} {e : Env} {R : Room} {s : State} {m : MethodId} {args : Array Value} {below : List Frame} {meth : Method} {c : Code} {cc : ByteArray} {nL : Nat} {own : String} {G : va_G} {tys : List (ClassId × FieldType)} {A : Nat → Prop} {cells slots : Nat} {Q : State → Prop} {ws : va_W} {lv : List (Nat × Value)} {pc n : Nat} {rest : List Value} (hC : Cx p s m args c cc nL own G tys A) (t0 N : Nat) {cA : ClassId} {x : Int32} {ws2 : Nat → va_W} (ht : tys[t0]? = some (cA, .boolean)) (hw0 : Cond.arrayClass .boolean ∈ zAW) (hx : x = nI N) (hN : N < 1000) (hc : cells + 1 ≤ R.cells) (hs : slots + N ≤ R.slots) (hdg : decode cc pc = .ok (.newarray .boolean, 2)) (hw : ∀ q, ws ++ [(q, .inl (cA, N, .inl (fun _ => nI 0)))] = ws2 q) (hn : pc + 2 = n) (k : ∀ q : Nat, ZZ p l e R s m args below meth c G A nL (cells + 1) (slots + N) Q (ws2 q) lv n (.ref q :: rest)) : ZZ p l e R s m args below meth c G A nL cells slots Q ws lv pc (.int x :: rest) := by
  subst hn; subst hx
  intro H locs ls hP hD hS hl
  refine va_newa (atype := .boolean) (ty := .boolean) (N' := N) (a0 := (N, .inl (fun _ => nI 0))) hC.1 hC.2.1 (hC.2.2.2.2.1 _ hw0) rfl hC.2.2.2.2.2.1 hP hD hS hC.2.2.2.2.2.2.1 (fun _ => rfl) (nI_pos (by omega)) (nI_clamp (by omega)) (by show N * 1 ≤ 536870912; omega) hc hs hdg (fun q cA' H1 hK hP hD hS => ?_)
  have e1 : va_RA s cA' .boolean := (hK.2 tys.length (cA', .boolean) (by simp)).2
  have e2 : va_RA s cA .boolean := (hC.2.2.2.2.2.1.2 t0 _ ht).2
  have e3 : cA' = cA := Option.some.inj (Eq.trans (Eq.symm e1) e2)
  subst e3
  rw [hw q] at hP hD
  exact k q H1 locs ls hP hD hS hl
theorem wputn_ok {G : va_G} {A : Nat → Prop} {ws w2 W0 W1 Wn : va_W} {H H1 : Heap} {is : List Nat} (hP : va_P G vwCl ws H) (hD : va_D A ws) (hA : ∀ q, H.size ≤ q → A q) (hC : is.map (fun i => ws[i]?) = W0.map some) (hadr : W1.map Prod.fst = W0.map Prod.fst) (hg : ∀ (k : Nat) (q : Nat × va_E), w2[k]? = some q → (∃ j : Nat, is[j]? = some k ∧ W1[j]? = some q) ∨ (k ∉ is ∧ ws[k]? = some q))
    (hk : ∀ q : Nat, q < H.size → ¬ va_A W0 H.size q → H1[q]? = H[q]?) (hP1 : va_P G vwCl (W1 ++ Wn) H1) (hD1 : va_D (va_A W0 H.size) (W1 ++ Wn)) : va_P G vwCl (w2 ++ Wn) H1 ∧ va_D A (w2 ++ Wn) := by
  have ea : ∀ (k : Nat) (q : Nat × va_E), W1[k]? = some q → (W1 ++ Wn)[k]? = some q := fun k q hq => by
    rw [List.getElem?_append_left (List.getElem?_eq_some_iff.mp hq).1]; exact hq
  have eb : ∀ (k : Nat) (q : Nat × va_E), Wn[k]? = some q → (W1 ++ Wn)[W1.length + k]? = some q := fun k q hq => by
    rw [List.getElem?_append_right (by omega), Nat.add_sub_cancel_left]; exact hq
  have hPa : va_P G vwCl W1 H1 := fun k q hq => hP1 k q (ea k q hq)
  have hPb : va_P G vwCl Wn H1 := fun k q hq => hP1 _ q (eb k q hq)
  obtain ⟨hP2, hD2⟩ := wput_ok hP hD hC hadr hg hk hPa
  have hnew : ∀ (k : Nat) (q : Nat × va_E), Wn[k]? = some q → H.size ≤ q.1 := by
    intro k q hq
    rcases hD1.2 _ q (eb k q hq) with ⟨k2, e, h⟩ | h
    · have e0 : (W0.map Prod.fst)[k2]? = some q.1 := by rw [List.getElem?_map, h]; rfl
      rw [← hadr, List.getElem?_map] at e0
      cases h1 : W1[k2]? with
      | none => rw [h1] at e0; cases e0
      | some q' =>
        rw [h1] at e0
        have h2 := hD1.1 _ _ q' q (ea k2 q' h1) (eb k q hq) (Option.some.inj e0)
        have h3 := (List.getElem?_eq_some_iff.mp h1).1
        omega
    · exact h
  have hold : ∀ (k : Nat) (q : Nat × va_E), w2[k]? = some q → q.1 < H.size := by
    intro k q hq
    rcases hg k q hq with ⟨j, hj, hq1⟩ | ⟨-, hq1⟩
    · obtain ⟨q0, h0, h0'⟩ := wmap_ta hC j k hj
      have e1 : (W1.map Prod.fst)[j]? = some q.1 := by rw [List.getElem?_map, hq1]; rfl
      have e0 : (W0.map Prod.fst)[j]? = some q0.1 := by rw [List.getElem?_map, h0]; rfl
      rw [hadr, e0] at e1
      rw [← Option.some.inj e1]
      exact (hP k q0 h0').lt
    · exact (hP k q hq1).lt
  have hcase : ∀ (k : Nat) (q : Nat × va_E), (w2 ++ Wn)[k]? = some q → (k < w2.length ∧ w2[k]? = some q) ∨ (w2.length ≤ k ∧ Wn[k - w2.length]? = some q) := by
    intro k q hq
    by_cases hl : k < w2.length
    · rw [List.getElem?_append_left hl] at hq; exact Or.inl ⟨hl, hq⟩
    · rw [List.getElem?_append_right (by omega)] at hq; exact Or.inr ⟨by omega, hq⟩
  refine ⟨hP2.app hPb, fun i j x y hi hj hxy => ?_, fun k q hq => ?_⟩
  · rcases hcase i x hi with ⟨-, h1⟩ | ⟨g1, h1⟩ <;> rcases hcase j y hj with ⟨-, h2⟩ | ⟨g2, h2⟩
    · exact hD2.1 i j x y h1 h2 hxy
    · have := hold i x h1; have := hnew _ y h2; omega
    · have := hnew _ x h1; have := hold j y h2; omega
    · have := hD1.1 _ _ x y (eb _ x h1) (eb _ y h2) hxy; omega
  · rcases hcase k q hq with ⟨-, h1⟩ | ⟨-, h1⟩
    · exact hD2.2 k q h1
    · exact hA _ (hnew _ q h1)
theorem z_callc {p : Program} {l : Launch} {e : Env} {R : Room} {s : State} {m : MethodId} {args : Array Value} {below : List Frame} {meth : Method} {c : Code} {cc : ByteArray} {nL : Nat} {own : String} {G : va_G} {tys : List (ClassId × FieldType)} {A : Nat → Prop} {cells slots : Nat} {Q : State → Prop} {ws : va_W} {lv : List (Nat × Value)} {pc n : Nat} {rest : List Value} (hC : Cx p s m args c cc nL own G tys A) {S : Type} {y : MethodName} {cy : ByteArray} {nl fr lo : Nat} {a : Nat} {W0 : va_W} {post : S → Prop} (Wa Wn : S → va_W) {mc ms index : Nat} (hM : MV S l y cy nl fr lo G tys [.ref a] W0 post (fun u => Wa u ++ Wn u) mc ms) (hg : GoodIn zAW (.code y cy nl none :: zAW)) (hlk : Cond.methodLink own index y ∈ zAW) (hin : Cond.instanceMethod y ∈ zAW) (hix : Cond.initialized y.cls ∈ zAW) (hy1 : y.name = "<init>") (hd : y.cls ≠ "java/lang/invoke/MethodHandle" ∧ y.cls ≠ "java/lang/invoke/VarHandle" ∧ (parseMethodDescriptor y.desc).map (fun d => d.parameters.length) = some 0) (hdg : decode cc pc = .ok (.invokespecial index, 3)) (hR : fr + 1 ≤ R.frames ∧ 8 + (nl + 11) + lo ≤ R.locals) (is : List Nat) (hCw : is.map (fun i => ws[i]?) = W0.map some) (hnd : va_nd is = true) (hcat : (rest.map fun v => v.category).sum ≤ 8) (hf : cells + mc ≤ R.cells ∧ slots + ms ≤ R.slots) (ws2 : S → va_W) (js : List Nat) (hAw : ∀ u, is.map (fun i => (ws2 u)[i]?) = (Wa u).map some) (WR : va_W) (hBw : ∀ u, js.map (fun i => (ws2 u)[i]?) = WR.map some) (hBo : js.map (fun i => ws[i]?) = WR.map some) (hcv : ∀ u, (List.range (ws2 u).length).all (fun k => is.contains k || js.contains k) = true) (hadr : ∀ u, post u → (Wa u).map Prod.fst = W0.map Prod.fst) (ws3 : S → va_W) (hw3 : ∀ u, post u → ws2 u ++ Wn u = ws3 u) (hn : pc + 3 = n) (kk : ∀ (u : S), post u → ZZ p l e R s m args below meth c G A nL (cells + mc) (slots + ms) Q (ws3 u) lv n rest) : ZZ p l e R s m args below meth c G A nL cells slots Q ws lv pc (.ref a :: rest) := by
  subst hn
  intro H locs ls hP hD hS hl
  have hPc := wmap_P hP hCw
  have hDc := hD.sub is hnd hCw
  have hK := hC.2.2.2.2.2.1
  have hFc := va_free (wc := W0) hD hS hC.2.2.2.2.2.2.1 is hCw
  refine va_callv (va_runI (As := []) (rest := rest) (Ts := zAW) ⟨hC.1, hC.2.1, hC.2.2.1, hC.2.2.2.1, hC.2.2.2.2.1⟩ (hM H.size) (cwI 0 hC.2.2.2.2.1 hg rfl rfl rfl (hC.2.2.2.2.1 _ hix) (hC.2.2.2.2.1 _ hlk) (hC.2.2.2.2.1 _ hin) hy1 hd hR) ⟨fun a' U g mk q => ⟨q.1, cW_moved q.2⟩, fun U hU hW => ⟨rfl, by rw [hU], by rw [hU]; exact hPc, va_K.moved hW.alike hK, hDc.weaken (fun _ _ _ _ => trivial), zN_warm hW hC.2.2.2.2.2.2.2.1, zT_to hW hU hS hFc hC.2.2.2.2.2.2.2.2⟩⟩ rfl rfl hl.1 rfl (lv_room hcat) hdg hf) hS (fun q _ h => hFc q h) hFc (fun u t H1 locs1 ht hvm hw hB hz1 hk1 hS1 => by
    obtain ⟨hP2, hD2⟩ := wputn_ok (w2 := ws2 u) hP hD (fun q hq => hC.2.2.2.2.2.2.1 q (Nat.le_trans hS.1 hq)) hCw (hadr u hw) (wget_of (hAw u) ((hBw u).trans hBo.symm) (hcv u)) hk1 (ht ▸ hB.1) hB.2.2
    rw [hw3 u hw] at hP2 hD2
    exact kk u hw H1 locs1 ls hP2 hD2 hS1 hl)
theorem z_callcN {p : Program} {l : Launch} {e : Env} {R : Room} {s : State} {m : MethodId} {args : Array Value} {below : List Frame} {meth : Method} {c : Code} {cc : ByteArray} {nL : Nat} {own : String} {G : va_G} {tys : List (ClassId × FieldType)} {A : Nat → Prop} {cells slots : Nat} {Q : State → Prop} {ws : va_W} {lv : List (Nat × Value)} {pc n : Nat} {rest : List Value} (hC : Cx p s m args c cc nL own G tys A) {S : Type} {y : MethodName} {cy : ByteArray} {nl fr lo : Nat} {a : Nat} {W0 : va_W} {post : S → Prop} (Wa Wn : S → va_W) {mc ms index : Nat} (hM : MV S l y cy nl fr lo G tys [.ref a] W0 post (fun u => Wa u ++ Wn u) mc ms) (hg : GoodIn zAW (.code y cy nl none :: zAW)) (hne : Cond.methodLinkNest own index y RX2 ∈ zNW) (hin : Cond.instanceMethod y ∈ zAW) (hix : Cond.initialized y.cls ∈ zAW) (hy1 : y.name = "<init>") (hd : y.cls ≠ "java/lang/invoke/MethodHandle" ∧ y.cls ≠ "java/lang/invoke/VarHandle" ∧ (parseMethodDescriptor y.desc).map (fun d => d.parameters.length) = some 0) (hdg : decode cc pc = .ok (.invokespecial index, 3)) (hR : fr + 1 ≤ R.frames ∧ 8 + (nl + 11) + lo ≤ R.locals) (is : List Nat) (hCw : is.map (fun i => ws[i]?) = W0.map some) (hnd : va_nd is = true) (hcat : (rest.map fun v => v.category).sum ≤ 8) (hf : cells + mc ≤ R.cells ∧ slots + ms ≤ R.slots) (ws2 : S → va_W) (js : List Nat) (hAw : ∀ u, is.map (fun i => (ws2 u)[i]?) = (Wa u).map some) (WR : va_W) (hBw : ∀ u, js.map (fun i => (ws2 u)[i]?) = WR.map some) (hBo : js.map (fun i => ws[i]?) = WR.map some) (hcv : ∀ u, (List.range (ws2 u).length).all (fun k => is.contains k || js.contains k) = true) (hadr : ∀ u, post u → (Wa u).map Prod.fst = W0.map Prod.fst) (ws3 : S → va_W) (hw3 : ∀ u, post u → ws2 u ++ Wn u = ws3 u) (hn : pc + 3 = n) (kk : ∀ (u : S), post u → ZZ p l e R s m args below meth c G A nL (cells + mc) (slots + ms) Q (ws3 u) lv n rest) : ZZ p l e R s m args below meth c G A nL cells slots Q ws lv pc (.ref a :: rest) := by
  subst hn
  intro H locs ls hP hD hS hl
  have hPc := wmap_P hP hCw
  have hDc := hD.sub is hnd hCw
  have hK := hC.2.2.2.2.2.1
  have hFc := va_free (wc := W0) hD hS hC.2.2.2.2.2.2.1 is hCw
  refine va_callv (va_runIN (As := []) (rest := rest) (Ts := zAW) ⟨hC.1, hC.2.1, hC.2.2.1, hC.2.2.2.1, hC.2.2.2.2.1⟩ (hM H.size) ⟨va_cnB 0 hC.2.2.2.2.1 hg rfl rfl rfl (hC.2.2.2.2.2.2.2.1.1 _ hne) (hC.2.2.2.2.1 _ hix) hd hR, hy1, hC.2.2.2.2.1 _ hin⟩ ⟨fun a' U g mk q => ⟨q.1, cW_moved q.2⟩, fun U hU hW => ⟨rfl, by rw [hU], by rw [hU]; exact hPc, va_K.moved hW.alike hK, hDc.weaken (fun _ _ _ _ => trivial), zN_warm hW hC.2.2.2.2.2.2.2.1, zT_to hW hU hS hFc hC.2.2.2.2.2.2.2.2⟩⟩ rfl rfl hl.1 rfl (lv_room hcat) hdg hf) hS (fun q _ h => hFc q h) hFc (fun u t H1 locs1 ht hvm hw hB hz1 hk1 hS1 => by
    obtain ⟨hP2, hD2⟩ := wputn_ok (w2 := ws2 u) hP hD (fun q hq => hC.2.2.2.2.2.2.1 q (Nat.le_trans hS.1 hq)) hCw (hadr u hw) (wget_of (hAw u) ((hBw u).trans hBo.symm) (hcv u)) hk1 (ht ▸ hB.1) hB.2.2
    rw [hw3 u hw] at hP2 hD2
    exact kk u hw H1 locs1 ls hP2 hD2 hS1 hl)
