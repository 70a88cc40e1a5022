/-! rows for the law: a helper with a table of handlers, a constructor -/
section LR
variable {p : Program} {l : Launch} {e : Env} {R : Room} {s : State} {m : MethodId} {args : Array Value} {below : List Frame} {meth : Method} {c : Code} {H : Heap} {locs : List Loc} {cells slots : Nat} {Q : State → Prop}
variable {cc : ByteArray} {pc : Nat} {ls : Array Slot} {rest : List Value} {D : va_G} {A : Nat → Prop} {tys : List (ClassId × FieldType)} {ws : va_W}
theorem cSW {own : String} {index maxL : Nat} {y : MethodName} {bytes : ByteArray} {ret : Option FieldType} {hh : List (Nat × Nat × Nat × Nat)} {rm : Room} (n : Nat) (hG : ∀ w ∈ gG, w.before args s = true) (hc : Cond.codeWith y bytes maxL ret hh ∈ gG) (hl : Cond.methodLink own index y ∈ gG) (hs : Cond.static y ∈ gG) (hini : Cond.initialized y.cls ∈ gG) (hd : y.cls ≠ "java/lang/invoke/MethodHandle" ∧ y.cls ≠ "java/lang/invoke/VarHandle" ∧ (parseMethodDescriptor y.desc).map (fun d => d.parameters.length) = some n)
    (hR : rm.frames + 1 ≤ R.frames ∧ 8 + (maxL + 11) + rm.locals ≤ R.locals) : vx_CSW R s args own index y bytes maxL ret hh (Cond.codeWith y bytes maxL ret hh :: gG) rm rm.cells rm.slots n := by
  refine ⟨⟨rfl, rfl, hR.1, hR.2, pay_in hG (goodG hc), List.mem_cons_self⟩, hG _ hc, hG _ hini, ⟨hd.1, hd.2.1⟩, fun sig h => ?_, hG _ hl, hG _ hs⟩
  have h2 := hd.2.2
  rw [h] at h2
  exact (Option.some.inj h2).symm
theorem kHi {S : Type} {post : Int32 → S → Prop} {w1 W' : S → va_W} {Wc ex : va_W} {rm : Room} {y : MethodName} {bytes : ByteArray} {maxL nL n index mc ms : Nat} {ret : Option FieldType} {hh : List (Nat × Nat × Nat × Nat)} {own : String} {As st0 : List Value} {lv : List (Nat × Value)}
    (hx : p.tables.exec = Jvm.exec) (hb : c.code = cc) (hml : c.maxLocals = nL) (hown : s.vm.findClass own = some m.cls) (hG : ∀ w ∈ gG, w.before args s = true) (hl : lv_has ls nL lv)
    (hM : Met l y (Cond.codeWith y bytes maxL ret hh :: gG) rm (va_Pc As (fun U => PRE D tys H.size Wc U ∧ ZX (va_A Wc H.size) U ∧ va_Nc eA eI U)) (va_Qi post (AT D tys (va_A Wc H.size) w1) (va_A Wc H.size)) mc ms (va_A Wc H.size)) (cw : vx_CSW R s args own index y bytes maxL ret hh (Cond.codeWith y bytes maxL ret hh :: gG) rm mc ms n) (hK : va_K D vwCl tys s) (hP : va_P D vwCl ws H) (hD : va_D A ws) (hS : va_S A s.heap H locs) (hA : ∀ q : Nat, s.heap.size ≤ q → A q) (hN : NST s) (hZ : ZX A s) (hNc : va_Nc eA eI s)
    (hws : ws = Wc ++ ex) (hW : ∀ u, w1 u ++ ex = W' u) (hnn : As.length = n) (hst : st0 = As.reverse ++ rest) (hro : (rest.map fun v => v.category).sum ≤ 8) (hdg : decode cc pc = .ok (.invokestatic index, 3)) (hf : cells + mc ≤ R.cells ∧ slots + ms ≤ R.slots)
    (kk : ∀ (r : Int32) (u : S), post r u → ∀ (H1 : Heap) (locs1 : List Loc), va_P D vwCl (W' u) H1 → va_D A (W' u) → va_S A s.heap H1 locs1 → W p l e R s m args below meth c H1 locs1 (cells + mc) (slots + ms) Q (F0 m (pc + 3) ls (.int r :: rest))) : W p l e R s m args below meth c H locs cells slots Q (F0 m pc ls st0) := by
  subst hws
  have hF := freeW (subPD hD) hS hA
  have zz : ∀ U : State, U.heap = H → s.WarmedH U.vm → ZX (va_A Wc H.size) U := fun U hU hW =>
    ⟨by rw [hU]; exact vx_Zq.moved hW.alike ((hZ.1.kept hS.2.1).narrow hF), by rw [hU]; exact vx_Zq.moved hW.alike ((hZ.2.1.kept hS.2.1).narrow hF), BWS.warm hW hZ.2.2⟩
  refine va_calli (vx_runSW ⟨hx, hb, hml, hown, hG⟩ hM cw ⟨fun a U g mk q => ⟨q.1, (preB (av := As) a U g mk ⟨q.1, q.2.1⟩).2, ⟨vx_Zq.moved (u := U) (U := U.calling g mk a) (Vm.Alike.refl U.vm) q.2.2.1.1, vx_Zq.moved (u := U) (U := U.calling g mk a) (Vm.Alike.refl U.vm) q.2.2.1.2.1, BWS.same (U := U.calling g mk a) rfl q.2.2.1.2.2⟩, va_Nc.moved (u := U) (U := U.calling g mk a) (Vm.Alike.refl U.vm) q.2.2.2⟩, fun U hU hW => ⟨rfl, (preW (av := As) hN hK (subP hP) (subPD hD) U hU hW).2, zz U hU hW, va_Nc.moved hW.alike hNc⟩⟩ rfl hnn hl.1 hst (lv_room hro) hdg hf) hS (fun q _ h => hF q h) hF (fun r u t H1 locs1 ht hvm hw hB hz1 hk1 hS1 => ?_)
  obtain ⟨hP1, hK1, hD1⟩ := hB
  rw [ht] at hP1
  obtain ⟨hP2, hD2⟩ := frameP hP hD hk1 hF hP1 hD1
  rw [hW u] at hP2 hD2
  exact kk r u hw H1 locs1 hP2 hD2 hS1
/-- a constructor whose own cell stands last -/
theorem kIv {S : Type} {PZ : State → Prop} {post : S → Prop} {w1 W' : S → va_W} {Wc ex : va_W} {rm : Room} {y : MethodName} {bytes : ByteArray} {maxL nL index mc ms : Nat} {own : String} {b : Nat} {st0 : List Value} {lv : List (Nat × Value)}
    (hx : p.tables.exec = Jvm.exec) (hb : c.code = cc) (hml : c.maxLocals = nL) (hown : s.vm.findClass own = some m.cls) (hG : ∀ w ∈ gG, w.before args s = true) (hl : lv_has ls nL lv)
    (hM : Met l y (Cond.code y bytes maxL none :: gG) rm (va_Pc [.ref b] PZ) (va_Qv post (AT D tys (va_A Wc H.size) w1) (va_A Wc H.size)) mc ms (va_A Wc H.size)) (cw : CallB R s args own index y bytes maxL none (Cond.code y bytes maxL none :: gG) rm mc ms 0 ∧ y.name = "<init>" ∧ (Cond.instanceMethod y).before args s = true) (hp : PreS s H (va_Pc [.ref b] PZ) [.ref b]) (hP : va_P D vwCl ws H) (hD : va_D A ws) (hS : va_S A s.heap H locs) (hA : ∀ q : Nat, s.heap.size ≤ q → A q)
    (hws : ws = ex ++ Wc) (hW : ∀ u, ex ++ w1 u = W' u) (hst : st0 = .ref b :: rest) (hro : (rest.map fun v => v.category).sum ≤ 8) (hdg : decode cc pc = .ok (.invokespecial index, 3)) (hf : cells + mc ≤ R.cells ∧ slots + ms ≤ R.slots)
    (kk : ∀ (u : S), post u → ∀ (H1 : Heap) (locs1 : List Loc), va_P D vwCl (W' u) H1 → va_D A (W' u) → va_S A s.heap H1 locs1 → W p l e R s m args below meth c H1 locs1 (cells + mc) (slots + ms) Q (F0 m (pc + 3) ls rest)) : W p l e R s m args below meth c H locs cells slots Q (F0 m pc ls st0) := by
  subst hws
  have hF := freeW (subQD hD) hS hA
  refine va_callv (va_runI (As := []) ⟨hx, hb, hml, hown, hG⟩ hM cw hp rfl rfl hl.1 hst (lv_room hro) hdg hf) hS (fun q _ h => hF q h) hF (fun u t H1 locs1 ht hvm hw hB hz1 hk1 hS1 => ?_)
  obtain ⟨hP1, hK1, hD1⟩ := hB
  rw [ht] at hP1
  obtain ⟨hP2, hD2⟩ := frameQ hP hD hk1 hF hP1 hD1
  rw [hW u] at hP2 hD2
  exact kk u hw H1 locs1 hP2 hD2 hS1
/-- two worlds change places -/
theorem swapP {w1 w2 w3 : va_W} (h : va_P D vwCl ((w1 ++ w2) ++ w3) H) : va_P D vwCl ((w1 ++ w3) ++ w2) H :=
  va_P.app (va_P.app (subP (subP h)) (subQ h)) (subQ (subP h))
theorem swapD {w1 w2 w3 : va_W} (h : va_D A ((w1 ++ w2) ++ w3)) : va_D A ((w1 ++ w3) ++ w2) := by
  have h12 : va_D A (w1 ++ w2) := subPD h
  refine va_D.app (va_D.app (subPD h12) (subQD h) (fun i j x y hx hy he => ?_)) (subQD h12) (fun i j x y hx hy he => ?_)
  · have := h.1 _ _ x y (apL (apL hx)) (apR hy) he
    have := ltL (apL (Wc := w2) hx); omega
  · by_cases hi : i < w1.length
    · rw [List.getElem?_append_left hi] at hx
      have := h12.1 _ _ x y (apL hx) (apR hy) he
      have := ltL hx; omega
    · rw [List.getElem?_append_right (by omega)] at hx
      have := h.1 _ _ x y (apR hx) (apL (apR hy)) he
      have := ltL (apR (pre := w1) hy); omega
end LR
theorem RlZ : Rl 0 zR zM := ⟨(0, (fun _ => 0), (fun _ => 0), (fun _ => 0)), (0, (fun _ => 0), (fun _ => 0)), ((fun _ => 0), (fun _ => 0), (fun _ => 0)), (0, 0, 0), (0, 0, 0), (0, 0), 0, rfl, ⟨rfl, fun i hi => ⟨rfl, rfl, rfl⟩⟩, ⟨rfl, fun i hi => absurd hi (show ¬ (i : Int) < (0 : Int32).toInt by rw [show (0 : Int32).toInt = 0 from by decide]; omega)⟩, ⟨rfl, rfl, rfl, rfl⟩⟩
theorem iZR : iR zR := by
  have k4 : i4 (0 : Int32) := by decide
  have k12 : i12 (0 : Int32) := by decide
  have k3 : i3 (0 : Int32) := by decide
  have k36 : i36 (0 : Int64) := by decide
  have k5 : i5 (0 : Int32) := by decide
  have kp : iP zP := ⟨k4, k12, k3⟩
  have kc : iC zC := ⟨fun _ => k36, k5⟩
  exact ⟨⟨k36, k36⟩, k4, fun _ => k12, ⟨kp, kp, kp, kp⟩, kp, kp, kp, ⟨fun _ => k36, kc, kc, ⟨k3, k3⟩⟩⟩
theorem iZM : iM zM := by
  have k4 : i4 (0 : Int32) := by decide
  have k12 : i12 (0 : Int32) := by decide
  have k5 : i5 (0 : Int32) := by decide
  exact ⟨k5, k5, ⟨fun _ => k4, fun _ => k12⟩, ⟨k4, k12⟩, k4, ⟨k4, k12⟩, k4, ⟨k4, k12⟩⟩
