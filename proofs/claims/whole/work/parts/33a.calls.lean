section RX
variable {p : Program} {l : Launch} {e : Env} {R : Room} {s : State} {m : MethodId} {args : Array Value} {below : List Frame} {meth : Method} {c : Code} {H : Heap} {locs : List Loc} {cells slots : Nat} {Q : State → Prop}
variable {cc : ByteArray} {pc : Nat} {ls : Array Slot} {rest : List Value} {D : va_G} {A : Nat → Prop} {tys : List (ClassId × FieldType)} {ws : va_W}
theorem subP {Wc ex : va_W} (hP : va_P D vwCl (Wc ++ ex) H) : va_P D vwCl Wc H := fun k q hk => hP k q (by rw [List.getElem?_append_left (List.getElem?_eq_some_iff.mp hk).1]; exact hk)
theorem subPD {Wc ex : va_W} (hD : va_D A (Wc ++ ex)) : va_D A Wc :=
  ⟨fun i j x y hx hy h => hD.1 i j x y (by rw [List.getElem?_append_left (List.getElem?_eq_some_iff.mp hx).1]; exact hx) (by rw [List.getElem?_append_left (List.getElem?_eq_some_iff.mp hy).1]; exact hy) h,
   fun k q hk => hD.2 k q (by rw [List.getElem?_append_left (List.getElem?_eq_some_iff.mp hk).1]; exact hk)⟩
theorem apR {pre Wc : va_W} {k : Nat} {q : Nat × va_E} (hk : Wc[k]? = some q) : (pre ++ Wc)[pre.length + k]? = some q := by
  rw [List.getElem?_append_right (Nat.le_add_right _ _), Nat.add_sub_cancel_left]; exact hk
theorem apL {pre Wc : va_W} {k : Nat} {q : Nat × va_E} (hk : pre[k]? = some q) : (pre ++ Wc)[k]? = some q := by
  rw [List.getElem?_append_left (List.getElem?_eq_some_iff.mp hk).1]; exact hk
theorem subQ {pre Wc : va_W} (hP : va_P D vwCl (pre ++ Wc) H) : va_P D vwCl Wc H := fun k q hk => hP _ q (apR hk)
theorem subQD {pre Wc : va_W} (hD : va_D A (pre ++ Wc)) : va_D A Wc :=
  ⟨fun i j x y hx hy h => Nat.add_left_cancel (hD.1 _ _ x y (apR hx) (apR hy) h), fun k q hk => hD.2 _ q (apR hk)⟩
theorem ltL {w : va_W} {k : Nat} {q : Nat × va_E} (hk : w[k]? = some q) : k < w.length := (List.getElem?_eq_some_iff.mp hk).1
/-- the callee's cells stand first -/
theorem frameP {Wc ex w1 : va_W} {H1 : Heap} (hP : va_P D vwCl (Wc ++ ex) H) (hD : va_D A (Wc ++ ex)) (hk : ∀ q : Nat, q < H.size → ¬ va_A Wc H.size q → H1[q]? = H[q]?) (hF : ∀ q, va_A Wc H.size q → A q) (hP1 : va_P D vwCl w1 H1) (hD1 : va_D (va_A Wc H.size) w1) : va_P D vwCl (w1 ++ ex) H1 ∧ va_D A (w1 ++ ex) := by
  have apart : ∀ (k : Nat) (q : Nat × va_E), ex[k]? = some q → q.1 < H.size ∧ ¬ va_A Wc H.size q.1 := by
    intro k q hq
    refine ⟨(hP _ q (apR hq)).lt, fun h => ?_⟩
    rcases h with ⟨k2, e, h⟩ | h
    · have hij := hD.1 _ _ (q.1, e) q (apL h) (apR hq) rfl
      have := ltL h; omega
    · have := (hP _ q (apR hq)).lt; omega
  refine ⟨va_P.app hP1 (fun k q hq => ?_), va_D.app (hD1.weaken (fun k q _ h => hF q.1 h)) (subQD hD) (fun i j x y hx hy hxy => ?_)⟩
  · obtain ⟨g1, g2⟩ := apart k q hq
    exact (hP _ q (apR hq)).kept (hk q.1 g1 g2)
  · exact (apart j y hy).2 (by rw [← hxy]; exact hD1.2 i x hx)
/-- the callee's cells stand last -/
theorem frameQ {pre Wc w1 : va_W} {H1 : Heap} (hP : va_P D vwCl (pre ++ Wc) H) (hD : va_D A (pre ++ Wc)) (hk : ∀ q : Nat, q < H.size → ¬ va_A Wc H.size q → H1[q]? = H[q]?) (hF : ∀ q, va_A Wc H.size q → A q) (hP1 : va_P D vwCl w1 H1) (hD1 : va_D (va_A Wc H.size) w1) : va_P D vwCl (pre ++ w1) H1 ∧ va_D A (pre ++ w1) := by
  have apart : ∀ (k : Nat) (q : Nat × va_E), pre[k]? = some q → q.1 < H.size ∧ ¬ va_A Wc H.size q.1 := by
    intro k q hq
    refine ⟨(hP _ q (apL hq)).lt, fun h => ?_⟩
    rcases h with ⟨k2, e, h⟩ | h
    · have hij := hD.1 _ _ (q.1, e) q (apR h) (apL hq) rfl
      have := ltL hq; omega
    · have := (hP _ q (apL hq)).lt; omega
  refine ⟨va_P.app (fun k q hq => ?_) hP1, va_D.app (subPD hD) (hD1.weaken (fun k q _ h => hF q.1 h)) (fun i j x y hx hy hxy => ?_)⟩
  · obtain ⟨g1, g2⟩ := apart k q hq
    exact (hP _ q (apL hq)).kept (hk q.1 g1 g2)
  · exact (apart i x hx).2 (by rw [hxy]; exact hD1.2 j y hy)
theorem freeW {Wc : va_W} (hD : va_D A Wc) (hS : va_S A s.heap H locs) (hA : ∀ q : Nat, s.heap.size ≤ q → A q) : ∀ q, va_A Wc H.size q → A q := fun q h => by
  rcases h with ⟨k, e, h⟩ | h
  · exact hD.2 k _ h
  · exact hA q (Nat.le_trans hS.1 h)
theorem preW {av : List Value} {Wc : va_W} (hN : NST s) (hK : va_K D vwCl tys s) (hP : va_P D vwCl Wc H) (hD : va_D A Wc) : ∀ U : State, U.heap = H → s.WarmedH U.vm → va_Pc av (PRE D tys H.size Wc) av.toArray U := fun U hU hW =>
  ⟨rfl, by rw [hU], by rw [hU]; exact hP, va_K.moved hW.alike hK, hD.weaken (fun _ _ _ _ => trivial), NST.warm hW hN⟩

theorem kPi {S : Type} {post : Int32 → S → Prop} {w1 W' : S → va_W} {Wc ex : va_W} {rm : Room} {y : MethodName} {bytes : ByteArray} {maxL nL n index : Nat} {ret : Option FieldType} {own : String} {b : Nat} {As st0 : List Value} {lv : List (Nat × Value)} {T : u_T} {N : Nat} {fs : List Value}
    (hx : p.tables.exec = Jvm.exec) (hb : c.code = cc) (hml : c.maxLocals = nL) (hown : s.vm.findClass own = some m.cls) (hG : ∀ w ∈ gG, w.before args s = true) (hl : lv_has ls nL lv)
    (hM : Met l y (Cond.code y bytes maxL ret :: gG) rm (va_Pc (.ref b :: As) (PRE D tys H.size Wc)) (va_Qi post (AT D tys (va_A Wc H.size) w1) (va_A Wc H.size)) 0 0 (va_A Wc H.size)) (cw : CallW R s args own y.cls index y bytes maxL ret (Cond.code y bytes maxL ret :: gG) rm 0 0 n) (q0 ci : Nat) (hc : vwCl[ci]? = some (y.cls, T, N)) (he : Wc[q0]? = some (b, .inr (ci, fs))) (hK : va_K D vwCl tys s) (hP : va_P D vwCl ws H) (hD : va_D A ws) (hS : va_S A s.heap H locs) (hA : ∀ q : Nat, s.heap.size ≤ q → A q) (hN : NST s)
    (hws : ws = Wc ++ ex) (hW : ∀ u, w1 u ++ ex = W' u) (hnn : As.length = n) (hst : st0 = As.reverse ++ .ref b :: rest) (hro : (rest.map fun v => v.category).sum ≤ 8) (hdg : decode cc pc = .ok (.invokevirtual index, 3)) (hf : cells ≤ R.cells ∧ slots ≤ R.slots)
    (kk : ∀ (r : Int32) (u : S), post r u → ∀ (H1 : Heap) (locs1 : List Loc), va_P D vwCl (W' u) H1 → va_D A (W' u) → va_S A s.heap H1 locs1 → W p l e R s m args below meth c H1 locs1 cells slots Q (F0 m (pc + 3) ls (.int r :: rest))) : W p l e R s m args below meth c H locs cells slots Q (F0 m pc ls st0) := by
  subst hws
  have hF := freeW (subPD hD) hS hA
  refine va_calli (va_runV ⟨hx, hb, hml, hown, hG⟩ hM cw ⟨preB, va_recv hK (subP hP) hc he, preW hN hK (subP hP) (subPD hD)⟩ rfl hnn hl.1 hst (lv_room hro) hdg hf) hS (fun q _ h => hF q h) hF (fun r u t H1 locs1 ht hvm hw hB hz1 hk1 hS1 => ?_)
  obtain ⟨hP1, hK1, hD1⟩ := hB
  rw [ht] at hP1
  obtain ⟨hP2, hD2⟩ := frameP hP hD hk1 hF hP1 hD1
  rw [hW u] at hP2 hD2
  exact kk r u hw H1 locs1 hP2 hD2 hS1
theorem kPl {S : Type} {post : Int64 → S → Prop} {w1 W' : S → va_W} {Wc ex : va_W} {rm : Room} {y : MethodName} {bytes : ByteArray} {maxL nL n index : Nat} {ret : Option FieldType} {own : String} {b : Nat} {As st0 : List Value} {lv : List (Nat × Value)} {T : u_T} {N : Nat} {fs : List Value}
    (hx : p.tables.exec = Jvm.exec) (hb : c.code = cc) (hml : c.maxLocals = nL) (hown : s.vm.findClass own = some m.cls) (hG : ∀ w ∈ gG, w.before args s = true) (hl : lv_has ls nL lv)
    (hM : Met l y (Cond.code y bytes maxL ret :: gG) rm (va_Pc (.ref b :: As) (PRE D tys H.size Wc)) (va_Ql post (AT D tys (va_A Wc H.size) w1) (va_A Wc H.size)) 0 0 (va_A Wc H.size)) (cw : CallW R s args own y.cls index y bytes maxL ret (Cond.code y bytes maxL ret :: gG) rm 0 0 n) (q0 ci : Nat) (hc : vwCl[ci]? = some (y.cls, T, N)) (he : Wc[q0]? = some (b, .inr (ci, fs))) (hK : va_K D vwCl tys s) (hP : va_P D vwCl ws H) (hD : va_D A ws) (hS : va_S A s.heap H locs) (hA : ∀ q : Nat, s.heap.size ≤ q → A q) (hN : NST s)
    (hws : ws = Wc ++ ex) (hW : ∀ u, w1 u ++ ex = W' u) (hnn : As.length = n) (hst : st0 = As.reverse ++ .ref b :: rest) (hro : (rest.map fun v => v.category).sum ≤ 8) (hdg : decode cc pc = .ok (.invokevirtual index, 3)) (hf : cells ≤ R.cells ∧ slots ≤ R.slots)
    (kk : ∀ (r : Int64) (u : S), post r u → ∀ (H1 : Heap) (locs1 : List Loc), va_P D vwCl (W' u) H1 → va_D A (W' u) → va_S A s.heap H1 locs1 → W p l e R s m args below meth c H1 locs1 cells slots Q (F0 m (pc + 3) ls (.long r :: rest))) : W p l e R s m args below meth c H locs cells slots Q (F0 m pc ls st0) := by
  subst hws
  have hF := freeW (subPD hD) hS hA
  refine va_calll (va_runV ⟨hx, hb, hml, hown, hG⟩ hM cw ⟨preB, va_recv hK (subP hP) hc he, preW hN hK (subP hP) (subPD hD)⟩ rfl hnn hl.1 hst (lv_room hro) hdg hf) hS (fun q _ h => hF q h) hF (fun r u t H1 locs1 ht hvm hw hB hz1 hk1 hS1 => ?_)
  obtain ⟨hP1, hK1, hD1⟩ := hB
  rw [ht] at hP1
  obtain ⟨hP2, hD2⟩ := frameP hP hD hk1 hF hP1 hD1
  rw [hW u] at hP2 hD2
  exact kk r u hw H1 locs1 hP2 hD2 hS1
theorem kPv {S : Type} {post : S → Prop} {w1 W' : S → va_W} {Wc ex : va_W} {rm : Room} {y : MethodName} {bytes : ByteArray} {maxL nL n index : Nat} {ret : Option FieldType} {own : String} {b : Nat} {As st0 : List Value} {lv : List (Nat × Value)} {T : u_T} {N : Nat} {fs : List Value}
    (hx : p.tables.exec = Jvm.exec) (hb : c.code = cc) (hml : c.maxLocals = nL) (hown : s.vm.findClass own = some m.cls) (hG : ∀ w ∈ gG, w.before args s = true) (hl : lv_has ls nL lv)
    (hM : Met l y (Cond.code y bytes maxL ret :: gG) rm (va_Pc (.ref b :: As) (PRE D tys H.size Wc)) (va_Qv post (AT D tys (va_A Wc H.size) w1) (va_A Wc H.size)) 0 0 (va_A Wc H.size)) (cw : CallW R s args own y.cls index y bytes maxL ret (Cond.code y bytes maxL ret :: gG) rm 0 0 n) (q0 ci : Nat) (hc : vwCl[ci]? = some (y.cls, T, N)) (he : Wc[q0]? = some (b, .inr (ci, fs))) (hK : va_K D vwCl tys s) (hP : va_P D vwCl ws H) (hD : va_D A ws) (hS : va_S A s.heap H locs) (hA : ∀ q : Nat, s.heap.size ≤ q → A q) (hN : NST s)
    (hws : ws = Wc ++ ex) (hW : ∀ u, w1 u ++ ex = W' u) (hnn : As.length = n) (hst : st0 = As.reverse ++ .ref b :: rest) (hro : (rest.map fun v => v.category).sum ≤ 8) (hdg : decode cc pc = .ok (.invokevirtual index, 3)) (hf : cells ≤ R.cells ∧ slots ≤ R.slots)
    (kk : ∀ (u : S), post u → ∀ (H1 : Heap) (locs1 : List Loc), va_P D vwCl (W' u) H1 → va_D A (W' u) → va_S A s.heap H1 locs1 → W p l e R s m args below meth c H1 locs1 cells slots Q (F0 m (pc + 3) ls (rest))) : W p l e R s m args below meth c H locs cells slots Q (F0 m pc ls st0) := by
  subst hws
  have hF := freeW (subPD hD) hS hA
  refine va_callv (va_runV ⟨hx, hb, hml, hown, hG⟩ hM cw ⟨preB, va_recv hK (subP hP) hc he, preW hN hK (subP hP) (subPD hD)⟩ rfl hnn hl.1 hst (lv_room hro) hdg hf) hS (fun q _ h => hF q h) hF (fun u t H1 locs1 ht hvm hw hB hz1 hk1 hS1 => ?_)
  obtain ⟨hP1, hK1, hD1⟩ := hB
  rw [ht] at hP1
  obtain ⟨hP2, hD2⟩ := frameP hP hD hk1 hF hP1 hD1
  rw [hW u] at hP2 hD2
  exact kk u hw H1 locs1 hP2 hD2 hS1
theorem kQi {S : Type} {post : Int32 → S → Prop} {w1 W' : S → va_W} {Wc ex : va_W} {rm : Room} {y : MethodName} {bytes : ByteArray} {maxL nL n index : Nat} {ret : Option FieldType} {own : String} {b : Nat} {As st0 : List Value} {lv : List (Nat × Value)} {T : u_T} {N : Nat} {fs : List Value}
    (hx : p.tables.exec = Jvm.exec) (hb : c.code = cc) (hml : c.maxLocals = nL) (hown : s.vm.findClass own = some m.cls) (hG : ∀ w ∈ gG, w.before args s = true) (hl : lv_has ls nL lv)
    (hM : Met l y (Cond.code y bytes maxL ret :: gG) rm (va_Pc (.ref b :: As) (PRE D tys H.size Wc)) (va_Qi post (AT D tys (va_A Wc H.size) w1) (va_A Wc H.size)) 0 0 (va_A Wc H.size)) (cw : CallW R s args own y.cls index y bytes maxL ret (Cond.code y bytes maxL ret :: gG) rm 0 0 n) (q0 ci : Nat) (hc : vwCl[ci]? = some (y.cls, T, N)) (he : Wc[q0]? = some (b, .inr (ci, fs))) (hK : va_K D vwCl tys s) (hP : va_P D vwCl ws H) (hD : va_D A ws) (hS : va_S A s.heap H locs) (hA : ∀ q : Nat, s.heap.size ≤ q → A q) (hN : NST s)
    (hws : ws = ex ++ Wc) (hW : ∀ u, ex ++ w1 u = W' u) (hnn : As.length = n) (hst : st0 = As.reverse ++ .ref b :: rest) (hro : (rest.map fun v => v.category).sum ≤ 8) (hdg : decode cc pc = .ok (.invokevirtual index, 3)) (hf : cells ≤ R.cells ∧ slots ≤ R.slots)
    (kk : ∀ (r : Int32) (u : S), post r u → ∀ (H1 : Heap) (locs1 : List Loc), va_P D vwCl (W' u) H1 → va_D A (W' u) → va_S A s.heap H1 locs1 → W p l e R s m args below meth c H1 locs1 cells slots Q (F0 m (pc + 3) ls (.int r :: rest))) : W p l e R s m args below meth c H locs cells slots Q (F0 m pc ls st0) := by
  subst hws
  have hF := freeW (subQD hD) hS hA
  refine va_calli (va_runV ⟨hx, hb, hml, hown, hG⟩ hM cw ⟨preB, va_recv hK (subQ hP) hc he, preW hN hK (subQ hP) (subQD hD)⟩ rfl hnn hl.1 hst (lv_room hro) hdg hf) hS (fun q _ h => hF q h) hF (fun r u t H1 locs1 ht hvm hw hB hz1 hk1 hS1 => ?_)
  obtain ⟨hP1, hK1, hD1⟩ := hB
  rw [ht] at hP1
  obtain ⟨hP2, hD2⟩ := frameQ hP hD hk1 hF hP1 hD1
  rw [hW u] at hP2 hD2
  exact kk r u hw H1 locs1 hP2 hD2 hS1
theorem kQl {S : Type} {post : Int64 → S → Prop} {w1 W' : S → va_W} {Wc ex : va_W} {rm : Room} {y : MethodName} {bytes : ByteArray} {maxL nL n index : Nat} {ret : Option FieldType} {own : String} {b : Nat} {As st0 : List Value} {lv : List (Nat × Value)} {T : u_T} {N : Nat} {fs : List Value}
    (hx : p.tables.exec = Jvm.exec) (hb : c.code = cc) (hml : c.maxLocals = nL) (hown : s.vm.findClass own = some m.cls) (hG : ∀ w ∈ gG, w.before args s = true) (hl : lv_has ls nL lv)
    (hM : Met l y (Cond.code y bytes maxL ret :: gG) rm (va_Pc (.ref b :: As) (PRE D tys H.size Wc)) (va_Ql post (AT D tys (va_A Wc H.size) w1) (va_A Wc H.size)) 0 0 (va_A Wc H.size)) (cw : CallW R s args own y.cls index y bytes maxL ret (Cond.code y bytes maxL ret :: gG) rm 0 0 n) (q0 ci : Nat) (hc : vwCl[ci]? = some (y.cls, T, N)) (he : Wc[q0]? = some (b, .inr (ci, fs))) (hK : va_K D vwCl tys s) (hP : va_P D vwCl ws H) (hD : va_D A ws) (hS : va_S A s.heap H locs) (hA : ∀ q : Nat, s.heap.size ≤ q → A q) (hN : NST s)
    (hws : ws = ex ++ Wc) (hW : ∀ u, ex ++ w1 u = W' u) (hnn : As.length = n) (hst : st0 = As.reverse ++ .ref b :: rest) (hro : (rest.map fun v => v.category).sum ≤ 8) (hdg : decode cc pc = .ok (.invokevirtual index, 3)) (hf : cells ≤ R.cells ∧ slots ≤ R.slots)
    (kk : ∀ (r : Int64) (u : S), post r u → ∀ (H1 : Heap) (locs1 : List Loc), va_P D vwCl (W' u) H1 → va_D A (W' u) → va_S A s.heap H1 locs1 → W p l e R s m args below meth c H1 locs1 cells slots Q (F0 m (pc + 3) ls (.long r :: rest))) : W p l e R s m args below meth c H locs cells slots Q (F0 m pc ls st0) := by
  subst hws
  have hF := freeW (subQD hD) hS hA
  refine va_calll (va_runV ⟨hx, hb, hml, hown, hG⟩ hM cw ⟨preB, va_recv hK (subQ hP) hc he, preW hN hK (subQ hP) (subQD hD)⟩ rfl hnn hl.1 hst (lv_room hro) hdg hf) hS (fun q _ h => hF q h) hF (fun r u t H1 locs1 ht hvm hw hB hz1 hk1 hS1 => ?_)
  obtain ⟨hP1, hK1, hD1⟩ := hB
  rw [ht] at hP1
  obtain ⟨hP2, hD2⟩ := frameQ hP hD hk1 hF hP1 hD1
  rw [hW u] at hP2 hD2
  exact kk r u hw H1 locs1 hP2 hD2 hS1
theorem kQv {S : Type} {post : S → Prop} {w1 W' : S → va_W} {Wc ex : va_W} {rm : Room} {y : MethodName} {bytes : ByteArray} {maxL nL n index : Nat} {ret : Option FieldType} {own : String} {b : Nat} {As st0 : List Value} {lv : List (Nat × Value)} {T : u_T} {N : Nat} {fs : List Value}
    (hx : p.tables.exec = Jvm.exec) (hb : c.code = cc) (hml : c.maxLocals = nL) (hown : s.vm.findClass own = some m.cls) (hG : ∀ w ∈ gG, w.before args s = true) (hl : lv_has ls nL lv)
    (hM : Met l y (Cond.code y bytes maxL ret :: gG) rm (va_Pc (.ref b :: As) (PRE D tys H.size Wc)) (va_Qv post (AT D tys (va_A Wc H.size) w1) (va_A Wc H.size)) 0 0 (va_A Wc H.size)) (cw : CallW R s args own y.cls index y bytes maxL ret (Cond.code y bytes maxL ret :: gG) rm 0 0 n) (q0 ci : Nat) (hc : vwCl[ci]? = some (y.cls, T, N)) (he : Wc[q0]? = some (b, .inr (ci, fs))) (hK : va_K D vwCl tys s) (hP : va_P D vwCl ws H) (hD : va_D A ws) (hS : va_S A s.heap H locs) (hA : ∀ q : Nat, s.heap.size ≤ q → A q) (hN : NST s)
    (hws : ws = ex ++ Wc) (hW : ∀ u, ex ++ w1 u = W' u) (hnn : As.length = n) (hst : st0 = As.reverse ++ .ref b :: rest) (hro : (rest.map fun v => v.category).sum ≤ 8) (hdg : decode cc pc = .ok (.invokevirtual index, 3)) (hf : cells ≤ R.cells ∧ slots ≤ R.slots)
    (kk : ∀ (u : S), post u → ∀ (H1 : Heap) (locs1 : List Loc), va_P D vwCl (W' u) H1 → va_D A (W' u) → va_S A s.heap H1 locs1 → W p l e R s m args below meth c H1 locs1 cells slots Q (F0 m (pc + 3) ls (rest))) : W p l e R s m args below meth c H locs cells slots Q (F0 m pc ls st0) := by
  subst hws
  have hF := freeW (subQD hD) hS hA
  refine va_callv (va_runV ⟨hx, hb, hml, hown, hG⟩ hM cw ⟨preB, va_recv hK (subQ hP) hc he, preW hN hK (subQ hP) (subQD hD)⟩ rfl hnn hl.1 hst (lv_room hro) hdg hf) hS (fun q _ h => hF q h) hF (fun u t H1 locs1 ht hvm hw hB hz1 hk1 hS1 => ?_)
  obtain ⟨hP1, hK1, hD1⟩ := hB
  rw [ht] at hP1
  obtain ⟨hP2, hD2⟩ := frameQ hP hD hk1 hF hP1 hD1
  rw [hW u] at hP2 hD2
  exact kk u hw H1 locs1 hP2 hD2 hS1
theorem kXi {E : String} {Wc ex : va_W} {rm : Room} {y : MethodName} {bytes : ByteArray} {maxL nL n index mc ms : Nat} {ret : Option FieldType} {own name : String} {b : Nat} {As st0 : List Value} {lv : List (Nat × Value)} {T : u_T} {N : Nat} {fs : List Value}
    (hx : p.tables.exec = Jvm.exec) (hb : c.code = cc) (hml : c.maxLocals = nL) (hown : s.vm.findClass own = some m.cls) (hG : ∀ w ∈ gG, w.before args s = true) (hl : lv_has ls nL lv)
    (hM : vx_Met l y (Cond.code y bytes maxL ret :: gG) rm (va_Pc (.ref b :: As) (fun U => PRE D tys H.size Wc U ∧ ZX (va_A Wc H.size) U)) (va_Qi (fun (_ : Int32) (_ : Unit) => False) (AT D tys (va_A Wc H.size) (fun (_ : Unit) => Wc)) (va_A Wc H.size)) (XP D tys E Wc (va_A Wc H.size)) mc ms (va_A Wc H.size)) (cw : CallW R s args own y.cls index y bytes maxL ret (Cond.code y bytes maxL ret :: gG) rm mc ms n) (q0 ci : Nat) (hc : vwCl[ci]? = some (y.cls, T, N)) (he : Wc[q0]? = some (b, .inr (ci, fs))) (hK : va_K D vwCl tys s) (hP : va_P D vwCl ws H) (hD : va_D A ws) (hS : va_S A s.heap H locs) (hA : ∀ q : Nat, s.heap.size ≤ q → A q) (hN : NST s) (hZ : ZX A s)
    (hws : ws = Wc ++ ex) (pre : List ExceptionTableEntry) (x : ExceptionTableEntry) (suf : List ExceptionTableEntry) (hsplit : c.exceptionTable.toList = pre ++ x :: suf) (hpass : ∀ z ∈ pre, covers z pc = false ∨ (z.catchType ≠ 0 ∧ ∃ nm : String, (Cond.classLink own z.catchType nm).before args s = true ∧ va_Nc E nm s)) (hcov : covers x pc = true) (h0 : x.catchType ≠ 0) (hlink : (Cond.classLink own x.catchType name).before args s = true) (hcast : (Cond.castable E name).before args s = true)
    (hnn : As.length = n) (hst : st0 = As.reverse ++ .ref b :: rest) (hro : (rest.map fun v => v.category).sum ≤ 8) (hdg : decode cc pc = .ok (.invokevirtual index, 3)) (hf : cells + mc ≤ R.cells ∧ slots + ms ≤ R.slots)
    (kk : ∀ (q9 : Nat) (H1 : Heap) (locs1 : List Loc), va_P D vwCl ws H1 → va_D A ws → va_S A s.heap H1 locs1 → W p l e R s m args below meth c H1 locs1 (cells + mc) (slots + ms) Q (F0 m x.handlerPc ls [.ref q9])) : W p l e R s m args below meth c H locs cells slots Q (F0 m pc ls st0) := by
  subst hws
  have hF := freeW (subPD hD) hS hA
  have zz : ∀ U : State, U.heap = H → s.WarmedH U.vm → ZX (va_A Wc H.size) U := fun U hU hW =>
    ⟨by rw [hU]; exact vx_Zq.moved hW.alike ((hZ.1.kept hS.2.1).narrow hF), by rw [hU]; exact vx_Zq.moved hW.alike ((hZ.2.1.kept hS.2.1).narrow hF), BWS.warm hW hZ.2.2⟩
  refine vx_calli (vx_runV ⟨hx, hb, hml, hown, hG⟩ hM cw ⟨fun a U g mk q => ⟨q.1, (preB (av := (.ref b :: As)) a U g mk ⟨q.1, q.2.1⟩).2, ⟨vx_Zq.moved (u := U) (U := U.calling g mk a) (Vm.Alike.refl U.vm) q.2.2.1, vx_Zq.moved (u := U) (U := U.calling g mk a) (Vm.Alike.refl U.vm) q.2.2.2.1, BWS.same (U := U.calling g mk a) rfl q.2.2.2.2⟩⟩, va_recv hK (subP hP) hc he, fun U hU hW => ⟨rfl, (preW (av := (.ref b :: As)) hN hK (subP hP) (subPD hD) U hU hW).2, zz U hU hW⟩⟩ rfl hnn hl.1 hst (lv_room hro) hdg hf) hS (fun q _ h => hF q h) hF (fun q _ h => hF q h) (fun E' ce q9 u t H1 locs1 ht hvm hw hB hz1 hk1 hS1 hcell hv hcl => ?_) (fun r u t H1 locs1 ht hvm hw hB hz1 hk1 hS1 => absurd hw id)
  obtain ⟨rfl, hP1, hK1, hD1⟩ := hB
  rw [ht] at hP1
  obtain ⟨hP2, hD2⟩ := frameP hP hD hk1 hF hP1 hD1
  exact vx_catch hown pre x suf hsplit hpass hcov h0 hlink hcast hcell hv hcl (kk q9 H1 locs1 hP2 hD2 hS1)
theorem kXl {E : String} {Wc ex : va_W} {rm : Room} {y : MethodName} {bytes : ByteArray} {maxL nL n index mc ms : Nat} {ret : Option FieldType} {own name : String} {b : Nat} {As st0 : List Value} {lv : List (Nat × Value)} {T : u_T} {N : Nat} {fs : List Value}
    (hx : p.tables.exec = Jvm.exec) (hb : c.code = cc) (hml : c.maxLocals = nL) (hown : s.vm.findClass own = some m.cls) (hG : ∀ w ∈ gG, w.before args s = true) (hl : lv_has ls nL lv)
    (hM : vx_Met l y (Cond.code y bytes maxL ret :: gG) rm (va_Pc (.ref b :: As) (fun U => PRE D tys H.size Wc U ∧ ZX (va_A Wc H.size) U)) (va_Ql (fun (_ : Int64) (_ : Unit) => False) (AT D tys (va_A Wc H.size) (fun (_ : Unit) => Wc)) (va_A Wc H.size)) (XP D tys E Wc (va_A Wc H.size)) mc ms (va_A Wc H.size)) (cw : CallW R s args own y.cls index y bytes maxL ret (Cond.code y bytes maxL ret :: gG) rm mc ms n) (q0 ci : Nat) (hc : vwCl[ci]? = some (y.cls, T, N)) (he : Wc[q0]? = some (b, .inr (ci, fs))) (hK : va_K D vwCl tys s) (hP : va_P D vwCl ws H) (hD : va_D A ws) (hS : va_S A s.heap H locs) (hA : ∀ q : Nat, s.heap.size ≤ q → A q) (hN : NST s) (hZ : ZX A s)
    (hws : ws = Wc ++ ex) (pre : List ExceptionTableEntry) (x : ExceptionTableEntry) (suf : List ExceptionTableEntry) (hsplit : c.exceptionTable.toList = pre ++ x :: suf) (hpass : ∀ z ∈ pre, covers z pc = false ∨ (z.catchType ≠ 0 ∧ ∃ nm : String, (Cond.classLink own z.catchType nm).before args s = true ∧ va_Nc E nm s)) (hcov : covers x pc = true) (h0 : x.catchType ≠ 0) (hlink : (Cond.classLink own x.catchType name).before args s = true) (hcast : (Cond.castable E name).before args s = true)
    (hnn : As.length = n) (hst : st0 = As.reverse ++ .ref b :: rest) (hro : (rest.map fun v => v.category).sum ≤ 8) (hdg : decode cc pc = .ok (.invokevirtual index, 3)) (hf : cells + mc ≤ R.cells ∧ slots + ms ≤ R.slots)
    (kk : ∀ (q9 : Nat) (H1 : Heap) (locs1 : List Loc), va_P D vwCl ws H1 → va_D A ws → va_S A s.heap H1 locs1 → W p l e R s m args below meth c H1 locs1 (cells + mc) (slots + ms) Q (F0 m x.handlerPc ls [.ref q9])) : W p l e R s m args below meth c H locs cells slots Q (F0 m pc ls st0) := by
  subst hws
  have hF := freeW (subPD hD) hS hA
  have zz : ∀ U : State, U.heap = H → s.WarmedH U.vm → ZX (va_A Wc H.size) U := fun U hU hW =>
    ⟨by rw [hU]; exact vx_Zq.moved hW.alike ((hZ.1.kept hS.2.1).narrow hF), by rw [hU]; exact vx_Zq.moved hW.alike ((hZ.2.1.kept hS.2.1).narrow hF), BWS.warm hW hZ.2.2⟩
  refine vx_calll (vx_runV ⟨hx, hb, hml, hown, hG⟩ hM cw ⟨fun a U g mk q => ⟨q.1, (preB (av := (.ref b :: As)) a U g mk ⟨q.1, q.2.1⟩).2, ⟨vx_Zq.moved (u := U) (U := U.calling g mk a) (Vm.Alike.refl U.vm) q.2.2.1, vx_Zq.moved (u := U) (U := U.calling g mk a) (Vm.Alike.refl U.vm) q.2.2.2.1, BWS.same (U := U.calling g mk a) rfl q.2.2.2.2⟩⟩, va_recv hK (subP hP) hc he, fun U hU hW => ⟨rfl, (preW (av := (.ref b :: As)) hN hK (subP hP) (subPD hD) U hU hW).2, zz U hU hW⟩⟩ rfl hnn hl.1 hst (lv_room hro) hdg hf) hS (fun q _ h => hF q h) hF (fun q _ h => hF q h) (fun E' ce q9 u t H1 locs1 ht hvm hw hB hz1 hk1 hS1 hcell hv hcl => ?_) (fun r u t H1 locs1 ht hvm hw hB hz1 hk1 hS1 => absurd hw id)
  obtain ⟨rfl, hP1, hK1, hD1⟩ := hB
  rw [ht] at hP1
  obtain ⟨hP2, hD2⟩ := frameP hP hD hk1 hF hP1 hD1
  exact vx_catch hown pre x suf hsplit hpass hcov h0 hlink hcast hcell hv hcl (kk q9 H1 locs1 hP2 hD2 hS1)
theorem kXv {E : String} {Wc ex : va_W} {rm : Room} {y : MethodName} {bytes : ByteArray} {maxL nL n index mc ms : Nat} {ret : Option FieldType} {own name : String} {b : Nat} {As st0 : List Value} {lv : List (Nat × Value)} {T : u_T} {N : Nat} {fs : List Value}
    (hx : p.tables.exec = Jvm.exec) (hb : c.code = cc) (hml : c.maxLocals = nL) (hown : s.vm.findClass own = some m.cls) (hG : ∀ w ∈ gG, w.before args s = true) (hl : lv_has ls nL lv)
    (hM : vx_Met l y (Cond.code y bytes maxL ret :: gG) rm (va_Pc (.ref b :: As) (fun U => PRE D tys H.size Wc U ∧ ZX (va_A Wc H.size) U)) (va_Qv (fun (_ : Unit) => False) (AT D tys (va_A Wc H.size) (fun (_ : Unit) => Wc)) (va_A Wc H.size)) (XP D tys E Wc (va_A Wc H.size)) mc ms (va_A Wc H.size)) (cw : CallW R s args own y.cls index y bytes maxL ret (Cond.code y bytes maxL ret :: gG) rm mc ms n) (q0 ci : Nat) (hc : vwCl[ci]? = some (y.cls, T, N)) (he : Wc[q0]? = some (b, .inr (ci, fs))) (hK : va_K D vwCl tys s) (hP : va_P D vwCl ws H) (hD : va_D A ws) (hS : va_S A s.heap H locs) (hA : ∀ q : Nat, s.heap.size ≤ q → A q) (hN : NST s) (hZ : ZX A s)
    (hws : ws = Wc ++ ex) (pre : List ExceptionTableEntry) (x : ExceptionTableEntry) (suf : List ExceptionTableEntry) (hsplit : c.exceptionTable.toList = pre ++ x :: suf) (hpass : ∀ z ∈ pre, covers z pc = false ∨ (z.catchType ≠ 0 ∧ ∃ nm : String, (Cond.classLink own z.catchType nm).before args s = true ∧ va_Nc E nm s)) (hcov : covers x pc = true) (h0 : x.catchType ≠ 0) (hlink : (Cond.classLink own x.catchType name).before args s = true) (hcast : (Cond.castable E name).before args s = true)
    (hnn : As.length = n) (hst : st0 = As.reverse ++ .ref b :: rest) (hro : (rest.map fun v => v.category).sum ≤ 8) (hdg : decode cc pc = .ok (.invokevirtual index, 3)) (hf : cells + mc ≤ R.cells ∧ slots + ms ≤ R.slots)
    (kk : ∀ (q9 : Nat) (H1 : Heap) (locs1 : List Loc), va_P D vwCl ws H1 → va_D A ws → va_S A s.heap H1 locs1 → W p l e R s m args below meth c H1 locs1 (cells + mc) (slots + ms) Q (F0 m x.handlerPc ls [.ref q9])) : W p l e R s m args below meth c H locs cells slots Q (F0 m pc ls st0) := by
  subst hws
  have hF := freeW (subPD hD) hS hA
  have zz : ∀ U : State, U.heap = H → s.WarmedH U.vm → ZX (va_A Wc H.size) U := fun U hU hW =>
    ⟨by rw [hU]; exact vx_Zq.moved hW.alike ((hZ.1.kept hS.2.1).narrow hF), by rw [hU]; exact vx_Zq.moved hW.alike ((hZ.2.1.kept hS.2.1).narrow hF), BWS.warm hW hZ.2.2⟩
  refine vx_callv (vx_runV ⟨hx, hb, hml, hown, hG⟩ hM cw ⟨fun a U g mk q => ⟨q.1, (preB (av := (.ref b :: As)) a U g mk ⟨q.1, q.2.1⟩).2, ⟨vx_Zq.moved (u := U) (U := U.calling g mk a) (Vm.Alike.refl U.vm) q.2.2.1, vx_Zq.moved (u := U) (U := U.calling g mk a) (Vm.Alike.refl U.vm) q.2.2.2.1, BWS.same (U := U.calling g mk a) rfl q.2.2.2.2⟩⟩, va_recv hK (subP hP) hc he, fun U hU hW => ⟨rfl, (preW (av := (.ref b :: As)) hN hK (subP hP) (subPD hD) U hU hW).2, zz U hU hW⟩⟩ rfl hnn hl.1 hst (lv_room hro) hdg hf) hS (fun q _ h => hF q h) hF (fun q _ h => hF q h) (fun E' ce q9 u t H1 locs1 ht hvm hw hB hz1 hk1 hS1 hcell hv hcl => ?_) (fun u t H1 locs1 ht hvm hw hB hz1 hk1 hS1 => absurd hw id)
  obtain ⟨rfl, hP1, hK1, hD1⟩ := hB
  rw [ht] at hP1
  obtain ⟨hP2, hD2⟩ := frameP hP hD hk1 hF hP1 hD1
  exact vx_catch hown pre x suf hsplit hpass hcov h0 hlink hcast hcell hv hcl (kk q9 H1 locs1 hP2 hD2 hS1)
end RX
/-- the start of a static method with a table of handlers -/
theorem mh {l : Launch} {y : MethodName} {cc : ByteArray} {maxL : Nat} {ret : Option FieldType} {hh : List (Nat × Nat × Nat × Nat)} {rm : Room} {av : List Value} {D : va_G} {tys : List (ClassId × FieldType)} {Wc : va_W} {sz mc ms : Nat} {QA : (Nat → Prop) → Array Value → State → Outcome → State → Prop}
    (hy : plainName y.cls = true) (hlen : (lg_sl av).length ≤ maxL)
    (body : ∀ (p : Program) (e : Env) (s : State) (m : MethodId) (below : List Frame) (meth : Method) (c : Code) (A : Nat → Prop) (ls : Array Slot) (H : Heap), p.tables.exec = Jvm.exec → c.code = cc → meth.sig.returnType = ret → c.maxLocals = maxL → s.vm.findClass y.cls = some m.cls → (∀ w ∈ gG, w.before av.toArray s = true) → meth.locks = false → c.exceptionTable.toList = tableOf hh →
      (∀ q : Nat, s.heap.size ≤ q → A q) → va_S A s.heap H [] → va_P D vwCl Wc H → va_K D vwCl tys s → va_D A Wc → lv_has ls maxL (lv_args 0 av) → NST s → ZX A s → va_Nc eA eI s → W p l e rm s m av.toArray below meth c H [] 0 0 (MQ below (QA A) av.toArray s mc ms A) (F0 m 0 ls [])) :
    Met l y (Cond.codeWith y cc maxL ret hh :: gG) rm (va_Pc av (fun U => PRE D tys sz Wc U ∧ ZX (va_A Wc sz) U ∧ va_Nc eA eI U)) (QA (va_A Wc sz)) mc ms (va_A Wc sz) := by
  refine va_MetW (hh := hh) (cc := cc) (maxL := maxL) (ret := ret) hy rfl ?_
  intro p e s m args below meth c s₁ B hml hv
  obtain ⟨rfl, ⟨hsz, hP, hK, hD0, hN⟩, hZ, hNc⟩ := hv
  have hts := atoms_spec (ws := Cond.codeWith y cc maxL ret hh :: gG) B.pre
  subst hsz
  have hl := lv_entry av (n := maxL) hlen
  rw [lg_entry_eq]
  exact body p e s m below meth c (va_A Wc s.heap.size) _ s.heap B.exec B.bytes B.returns hml (findClass_of_methodNamed B.named) (fun w h => hts w (List.mem_cons_of_mem _ h)) B.notSynchronized (vx_table (x := y) B (hts _ List.mem_cons_self)) (fun q h => Or.inr h) va_S.rf hP hK hD0.self hl hN hZ hNc
