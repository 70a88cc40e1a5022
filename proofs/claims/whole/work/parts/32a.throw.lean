/-! the throwing roads: 'throw new E()' ahead of any write -/
def xN : List String := ["java/lang/RuntimeException", "java/lang/Exception"]
def eI : String := "java/lang/IndexOutOfBoundsException"
def eA : String := "java/lang/IllegalArgumentException"
/-- the words of a throw that no list of good ones holds: they stand in every state that is warmed from here -/
def bwd : List MethodName := [⟨"java/lang/RuntimeException", "<init>", "()V"⟩, ⟨"java/lang/Exception", "<init>", "()V"⟩, ⟨"java/lang/Throwable", "<init>", "()V"⟩]
def bwc : List String := [eI, eA]
def bw : List Cond := bwd.map Cond.declares ++ bwc.map (fun c => Cond.castable c c)
def BWS (U : State) : Prop := (∀ x ∈ bwd, va_Nw (.declares x) U) ∧ ∀ c ∈ bwc, va_Nw (.castable c c) U
theorem BWS.warm {s U : State} (hW : s.WarmedH U.vm) (h : BWS s) : BWS U := ⟨fun x hx => va_Nw.warmD hW (h.1 x hx), fun c hc => va_Nw.warmC hW (h.2 c hc)⟩
theorem BWS.same {s U : State} (hv : s.vm = U.vm) (h : BWS s) : BWS U := ⟨fun x hx => va_Nw.same rfl hv (h.1 x hx), fun c hc => va_Nw.same rfl hv (h.2 c hc)⟩
theorem BWS.all {s : State} {args : Array Value} (h : BWS s) : ∀ w ∈ bw, w.before args s = true := by
  intro w hw
  rcases List.mem_append.mp hw with hw | hw
  · obtain ⟨x, hx, rfl⟩ := List.mem_map.mp hw
    exact va_tabs rfl rfl (h.1 x hx)
  · obtain ⟨c, hc, rfl⟩ := List.mem_map.mp hw
    exact va_tabs rfl rfl (h.2 c hc)
def ZX (A : Nat → Prop) (U : State) : Prop := vx_Zq Bundle.tN "UNASSIGNED_STACK" Bundle.steD A U U.heap ∧ vx_Zq Bundle.tN "SUPPRESSED_SENTINEL" Bundle.listD A U U.heap ∧ BWS U
abbrev XP (D : va_G) (tys : List (ClassId × FieldType)) (E : String) (Wc : va_W) (A : Nat → Prop) : String → State → State → Prop := vx_X (fun _ : Unit => True) (fun E' _ t => E' = E ∧ va_P D vwCl Wc t.heap ∧ va_K D vwCl tys t ∧ va_D A Wc) A
theorem mx {l : Launch} {y : MethodName} {cc : ByteArray} {maxL : Nat} {ret : Option FieldType} {rm : Room} {av : List Value} {D : va_G} {tys : List (ClassId × FieldType)} {Wc : va_W} {sz mc ms : Nat} {QA : (Nat → Prop) → Array Value → State → Outcome → State → Prop} {XA : (Nat → Prop) → String → State → State → Prop}
    (hy : plainName y.cls = true) (hlen : (lg_sl av).length ≤ maxL)
    (body : ∀ (p : Program) (e : Env) (s : State) (m : MethodId) (below : List Frame) (meth : Method) (c : Code) (A : Nat → Prop) (ls : Array Slot) (H : Heap), p.tables.exec = Jvm.exec → c.code = cc → meth.sig.returnType = ret → c.maxLocals = maxL → s.vm.findClass y.cls = some m.cls → (∀ w ∈ gG, w.before av.toArray s = true) → meth.locks = false → (∀ x ∈ c.exceptionTable.toList, False) →
      (∀ q : Nat, s.heap.size ≤ q → A q) → va_S A s.heap H [] → va_P D vwCl Wc H → va_K D vwCl tys s → va_D A Wc → lv_has ls maxL (lv_args 0 av) → NST s → ZX A s → W p l e rm s m av.toArray below meth c H [] 0 0 (vx_MQ below (QA A) (XA A) av.toArray s mc ms A) (F0 m 0 ls [])) :
    vx_Met l y (Cond.code y cc maxL ret :: gG) rm (va_Pc av (fun U => PRE D tys sz Wc U ∧ ZX (va_A Wc sz) U)) (QA (va_A Wc sz)) (XA (va_A Wc sz)) mc ms (va_A Wc sz) := by
  refine vx_ofW (cc := cc) (maxL := maxL) (ret := ret) hy rfl ?_
  intro p e s m args below meth c s₁ B hml hnt hv
  obtain ⟨rfl, ⟨hsz, hP, hK, hD0, hN⟩, hZ⟩ := hv
  have hts := atoms_spec (ws := Cond.code y cc maxL ret :: gG) B.pre
  subst hsz
  have hl := lv_entry av (n := maxL) hlen
  rw [lg_entry_eq]
  exact body p e s m below meth c (va_A Wc s.heap.size) _ s.heap B.exec B.bytes B.returns hml (findClass_of_methodNamed B.named) (fun w h => hts w (List.mem_cons_of_mem _ h)) B.notSynchronized hnt (fun q h => Or.inr h) va_S.rf hP hK hD0.self hl hN hZ
theorem atI : ∀ w ∈ (vx_at0 RX4 39 eI xN).filter goodWord, w ∈ gG := by decide +kernel
theorem atIb : ∀ w ∈ (vx_at0 RX4 39 eI xN).filter (fun w => !goodWord w), w ∈ bw := by decide +kernel
theorem atIg : ∀ w ∈ Cond.classLink RX4 37 eI :: Cond.initialized eI :: vx_at0 RX4 39 eI xN, vx_ot w = true := by decide +kernel
theorem atA : ∀ w ∈ (vx_at0 RX4 67 eA xN).filter goodWord, w ∈ gG := by decide +kernel
theorem atAb : ∀ w ∈ (vx_at0 RX4 67 eA xN).filter (fun w => !goodWord w), w ∈ bw := by decide +kernel
theorem atAg : ∀ w ∈ Cond.classLink RX4 65 eA :: Cond.initialized eA :: vx_at0 RX4 67 eA xN, vx_ot w = true := by decide +kernel
theorem clI : Cond.classLink RX4 37 eI ∈ gG := by decide +kernel
theorem inI : Cond.initialized eI ∈ gG := by decide +kernel
theorem clA : Cond.classLink RX4 65 eA ∈ gG := by decide +kernel
theorem inA : Cond.initialized eA ∈ gG := by decide +kernel
section TH
variable {p : Program} {l : Launch} {e : Env} {R : Room} {s : State} {m : MethodId} {args : Array Value} {below : List Frame} {meth : Method} {c : Code} {H : Heap} {locs : List Loc} {cells slots : Nat} {Qc : Array Value → State → Outcome → State → Prop}
variable {cc : ByteArray} {pc nL : Nat} {ls : Array Slot} {lv : List (Nat × Value)} {D : va_G} {A : Nat → Prop} {tys : List (ClassId × FieldType)} {ws : va_W}
theorem xpT {E : String} (hP : va_P D vwCl ws H) (hK : va_K D vwCl tys s) (hD : va_D A ws) (hS : va_S A s.heap H locs) : ∀ t : State, s.vm.Alike t.vm → H.size ≤ t.heap.size → (∀ q : Nat, q < H.size → t.heap[q]? = H[q]?) → XP D tys E ws A E s t := fun t h1 h2 h3 =>
  ⟨(), trivial, ⟨rfl, hP.kept (fun k q hk => h3 q.1 (hP k q hk).lt), va_K.moved h1 hK, hD⟩, ⟨Nat.le_trans hS.1 h2, fun q h4 h5 => (h3 q (Nat.lt_of_lt_of_le h4 hS.1)).trans (hS.2.1 q h4 h5)⟩⟩
theorem thI (hx : p.tables.exec = Jvm.exec) (hb : c.code = cc) (hT : l.stackTraces = false) (hown : s.vm.findClass RX4 = some m.cls) (hG : ∀ w ∈ gG, w.before args s = true) (hlocks : meth.locks = false) (hnt : ∀ x ∈ c.exceptionTable.toList, False) (hml : c.maxLocals = nL) (hl : lv_has ls nL lv) (hK : va_K D vwCl tys s) (hP : va_P D vwCl ws H) (hD : va_D A ws) (hS : va_S A s.heap H locs) (hZ : ZX A s)
    (d0 : decode cc pc = .ok (.new 37, 3)) (d3 : decode cc (pc + 3) = .ok (.dup, 1)) (d4 : decode cc (pc + 4) = .ok (.invokespecial 39, 3)) (d7 : decode cc (pc + 7) = .ok (.athrow, 1)) (hR : 6 ≤ R.frames ∧ 81 ≤ R.locals ∧ cells + 1 ≤ R.cells ∧ slots + 6 ≤ R.slots) :
    W p l e R s m args below meth c H locs cells slots (vx_MQ below Qc (XP D tys eI ws A) args s (cells + 1) (slots + 6) A) (F0 m pc ls []) :=
  vx_throw0 (own := RX4) (cls := eI) (names := xN) hx hb hT hown (by decide +kernel) (by decide +kernel) (hG _ clI) (hG _ inI) (vx_hat (fun w h => hG w (atI w h)) atIb hZ.2.2.all) atIg hZ.1 hZ.2.1 hS (hl.1.trans hml.symm) d0 d3 d4 d7 (fun x h => absurd (hnt x h) id) (by exact hR.1) (by have := hR.2.1; simpa [xN] using this) hR.2.2.1 hR.2.2.2 hlocks (xpT hP hK hD hS) hS.2.2 (Nat.le_refl _) (Nat.le_refl _)
theorem thA (hx : p.tables.exec = Jvm.exec) (hb : c.code = cc) (hT : l.stackTraces = false) (hown : s.vm.findClass RX4 = some m.cls) (hG : ∀ w ∈ gG, w.before args s = true) (hlocks : meth.locks = false) (hnt : ∀ x ∈ c.exceptionTable.toList, False) (hml : c.maxLocals = nL) (hl : lv_has ls nL lv) (hK : va_K D vwCl tys s) (hP : va_P D vwCl ws H) (hD : va_D A ws) (hS : va_S A s.heap H locs) (hZ : ZX A s)
    (d0 : decode cc pc = .ok (.new 65, 3)) (d3 : decode cc (pc + 3) = .ok (.dup, 1)) (d4 : decode cc (pc + 4) = .ok (.invokespecial 67, 3)) (d7 : decode cc (pc + 7) = .ok (.athrow, 1)) (hR : 6 ≤ R.frames ∧ 81 ≤ R.locals ∧ cells + 1 ≤ R.cells ∧ slots + 6 ≤ R.slots) :
    W p l e R s m args below meth c H locs cells slots (vx_MQ below Qc (XP D tys eA ws A) args s (cells + 1) (slots + 6) A) (F0 m pc ls []) :=
  vx_throw0 (own := RX4) (cls := eA) (names := xN) hx hb hT hown (by decide +kernel) (by decide +kernel) (hG _ clA) (hG _ inA) (vx_hat (fun w h => hG w (atA w h)) atAb hZ.2.2.all) atAg hZ.1 hZ.2.1 hS (hl.1.trans hml.symm) d0 d3 d4 d7 (fun x h => absurd (hnt x h) id) (by exact hR.1) (by have := hR.2.1; simpa [xN] using this) hR.2.2.1 hR.2.2.2 hlocks (xpT hP hK hD hS) hS.2.2 (Nat.le_refl _) (Nat.le_refl _)
end TH
