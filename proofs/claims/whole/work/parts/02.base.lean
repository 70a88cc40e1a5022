/-! my own rows over the kit's: one list of words for all contracts (gG); a contract's start (mo) and its ends (reti ..); a row for a put, a read, a call with the frame rule in it -/
def gG : List Cond := lw_tbl.filter goodWord
theorem inG {w : Cond} (i : Nat) (h : lw_tbl[i]? = some w) (hg : goodWord w = true) : w ∈ gG := List.mem_filter.mpr ⟨List.mem_of_getElem? h, hg⟩
theorem goodG {w : Cond} (hc : w ∈ gG) : GoodIn gG (w :: gG) := by
  intro x hx
  rcases List.mem_cons.mp hx with rfl | h
  · exact ⟨hc, good_of_word (List.mem_filter.mp hc).2⟩
  · exact ⟨h, good_of_word (List.mem_filter.mp h).2⟩
theorem pq {α β : Type} {a : α} {b : β} {p : α × β} (h : (a, b) = p) : a = p.1 ∧ b = p.2 := by subst h; exact ⟨rfl, rfl⟩
theorem neI {x k : Int32} {n : Int} (h : ¬ x = k) (hk : k.toInt = n) : ¬ x.toInt = n := fun z => h (Int32.toInt_inj.mp (z.trans hk.symm))
theorem inL {i : Int32} {n : Nat} (h : (!(decide (i < 0) || decide (n ≤ i.toNatClampNeg))) = true) : vp_in i n := by
  intro hz
  rcases hz with hz | hz
  · rw [decide_eq_true hz] at h; cases h
  · rw [decide_eq_true hz, Bool.or_true] at h; cases h
theorem mapSub {ws ws' : va_W} {is : List Nat} (h : is.map (fun i => ws[i]?) = ws'.map some) : is.filterMap (fun i => ws[i]?) = ws' := by
  have h2 := congrArg (List.filterMap id) h
  simpa [List.filterMap_map, Function.comp_def] using h2
/-- the links across the nest: they stand in every state that is warmed from here -/
def NST (U : State) : Prop := ∀ q ∈ nwl, va_Nw (.methodLinkNest q.1 q.2.1 q.2.2.1 q.2.2.2) U
theorem NST.warm {s U : State} (hW : s.WarmedH U.vm) (h : NST s) : NST U := fun q hq => va_Nw.warmM hW (h q hq)
theorem NST.same {s U : State} (hv : s.vm = U.vm) (h : NST s) : NST U := fun q hq => va_Nw.same rfl hv (h q hq)
abbrev PRE (D : va_G) (tys : List (ClassId × FieldType)) (sz : Nat) (Wc : va_W) : State → Prop := fun U => U.heap.size = sz ∧ va_P D vwCl Wc U.heap ∧ va_K D vwCl tys U ∧ va_D (fun _ => True) Wc ∧ NST U
abbrev AT {S : Type} (D : va_G) (tys : List (ClassId × FieldType)) (A : Nat → Prop) (w1 : S → va_W) : S → State → Prop := fun u t => va_P D vwCl (w1 u) t.heap ∧ va_K D vwCl tys t ∧ va_D A (w1 u)
theorem mo {l : Launch} {y : MethodName} {cc : ByteArray} {maxL : Nat} {ret : Option FieldType} {rm : Room} {av : List Value} {D : va_G} {tys : List (ClassId × FieldType)} {Wc : va_W} {sz mc ms : Nat} {QA : (Nat → Prop) → Array Value → State → Outcome → State → Prop}
    (hy : plainName y.cls = true) (hlen : (lg_sl av).length ≤ maxL)
    (body : ∀ (p : Program) (e : Env) (s : State) (m : MethodId) (below : List Frame) (meth : Method) (c : Code) (A : Nat → Prop) (ls : Array Slot) (H : Heap), p.tables.exec = Jvm.exec → c.code = cc → meth.sig.returnType = ret → c.maxLocals = maxL → s.vm.findClass y.cls = some m.cls → (∀ w ∈ gG, w.before av.toArray s = true) → meth.locks = false → meth.name = y.name →
      (∀ q : Nat, s.heap.size ≤ q → A q) → va_S A s.heap H [] → va_P D vwCl Wc H → va_K D vwCl tys s → va_D A Wc → lv_has ls maxL (lv_args 0 av) → NST s → W p l e rm s m av.toArray below meth c H [] 0 0 (MQ below (QA A) av.toArray s mc ms A) (F0 m 0 ls [])) :
    Met l y (Cond.code y cc maxL ret :: gG) rm (va_Pc av (PRE D tys sz Wc)) (QA (va_A Wc sz)) mc ms (va_A Wc sz) := by
  refine Met.ofW (cc := cc) (maxL := maxL) (ret := ret) hy rfl ?_
  intro p e s m args below meth c s₁ B hml hv
  obtain ⟨rfl, hsz, hP, hK, hD0, hN⟩ := hv
  have hts := atoms_spec (ws := Cond.code y cc maxL ret :: gG) B.pre
  subst hsz
  have hl := lv_entry av (n := maxL) hlen
  rw [lg_entry_eq]
  exact body p e s m below meth c (va_A Wc s.heap.size) _ s.heap B.exec B.bytes B.returns hml (findClass_of_methodNamed B.named) (fun w h => hts w (List.mem_cons_of_mem _ h)) B.notSynchronized (name_of_methodNamed B.named B.method).1 (fun q h => Or.inr h) va_S.rf hP hK hD0.self hl hN
theorem nb1 {q : Prop} [Decidable q] : narrow .boolean (.int (if q then (0 : Int32) else 1)) = .int (if q then (0 : Int32) else 1) := by split <;> rfl
theorem nb2 {q : Prop} [Decidable q] : fits .boolean (.int (if q then (0 : Int32) else 1)) = true := by split <;> rfl
section CW
variable {R : Room} {s : State} {args : Array Value} {own : String} {index maxL : Nat} {y : MethodName} {bytes : ByteArray} {ret : Option FieldType} {rm : Room}
theorem cV (n : Nat) (hG : ∀ w ∈ gG, w.before args s = true) (hc : Cond.code y bytes maxL ret ∈ gG) (hl : Cond.methodLink own index y ∈ gG) (hi : Cond.instanceMethod y ∈ gG) (hs : Cond.selects y.cls y y ∈ gG) (hini : Cond.initialized y.cls ∈ gG) (hd : y.cls ≠ "java/lang/invoke/MethodHandle" ∧ y.cls ≠ "java/lang/invoke/VarHandle" ∧ (parseMethodDescriptor y.desc).map (fun d => d.parameters.length) = some n)
    (hR : rm.frames + 1 ≤ R.frames ∧ 8 + (maxL + 11) + rm.locals ≤ R.locals) : CallW R s args own y.cls index y bytes maxL ret (Cond.code y bytes maxL ret :: gG) rm rm.cells rm.slots n := ⟨callB_of n hG (goodG hc) rfl rfl rfl (hG _ hini) (hG _ hl) hd hR, hG _ hi, hG _ hs⟩
theorem cS (n : Nat) (hG : ∀ w ∈ gG, w.before args s = true) (hc : Cond.code y bytes maxL ret ∈ gG) (hl : Cond.methodLink own index y ∈ gG) (hs : Cond.static y ∈ gG) (hini : Cond.initialized y.cls ∈ gG) (hd : y.cls ≠ "java/lang/invoke/MethodHandle" ∧ y.cls ≠ "java/lang/invoke/VarHandle" ∧ (parseMethodDescriptor y.desc).map (fun d => d.parameters.length) = some n)
    (hR : rm.frames + 1 ≤ R.frames ∧ 8 + (maxL + 11) + rm.locals ≤ R.locals) : CallB R s args own index y bytes maxL ret (Cond.code y bytes maxL ret :: gG) rm rm.cells rm.slots n ∧ (Cond.static y).before args s = true := ⟨callB_of n hG (goodG hc) rfl rfl rfl (hG _ hini) (hG _ hl) hd hR, hG _ hs⟩
theorem cSN {host : String} (n : Nat) (hG : ∀ w ∈ gG, w.before args s = true) (hc : Cond.code y bytes maxL ret ∈ gG) (hl : va_Nw (.methodLinkNest own index y host) s) (hs : Cond.static y ∈ gG) (hini : Cond.initialized y.cls ∈ gG) (hd : y.cls ≠ "java/lang/invoke/MethodHandle" ∧ y.cls ≠ "java/lang/invoke/VarHandle" ∧ (parseMethodDescriptor y.desc).map (fun d => d.parameters.length) = some n)
    (hR : rm.frames + 1 ≤ R.frames ∧ 8 + (maxL + 11) + rm.locals ≤ R.locals) : va_CN R s args own index y host bytes maxL ret (Cond.code y bytes maxL ret :: gG) rm rm.cells rm.slots n ∧ (Cond.static y).before args s = true ∧ True := ⟨va_cnB n hG (goodG hc) rfl rfl rfl hl (hG _ hini) hd hR, hG _ hs, trivial⟩
theorem cI (n : Nat) (hG : ∀ w ∈ gG, w.before args s = true) (hc : Cond.code y bytes maxL none ∈ gG) (hl : Cond.methodLink own index y ∈ gG) (hi : Cond.instanceMethod y ∈ gG) (hini : Cond.initialized y.cls ∈ gG) (hy : y.name = "<init>") (hd : y.cls ≠ "java/lang/invoke/MethodHandle" ∧ y.cls ≠ "java/lang/invoke/VarHandle" ∧ (parseMethodDescriptor y.desc).map (fun d => d.parameters.length) = some n)
    (hR : rm.frames + 1 ≤ R.frames ∧ 8 + (maxL + 11) + rm.locals ≤ R.locals) : CallB R s args own index y bytes maxL none (Cond.code y bytes maxL none :: gG) rm rm.cells rm.slots n ∧ y.name = "<init>" ∧ (Cond.instanceMethod y).before args s = true := ⟨callB_of n hG (goodG hc) rfl rfl rfl (hG _ hini) (hG _ hl) hd hR, hy, hG _ hi⟩
theorem cIN {host : String} (n : Nat) (hG : ∀ w ∈ gG, w.before args s = true) (hc : Cond.code y bytes maxL none ∈ gG) (hl : va_Nw (.methodLinkNest own index y host) s) (hi : Cond.instanceMethod y ∈ gG) (hini : Cond.initialized y.cls ∈ gG) (hy : y.name = "<init>") (hd : y.cls ≠ "java/lang/invoke/MethodHandle" ∧ y.cls ≠ "java/lang/invoke/VarHandle" ∧ (parseMethodDescriptor y.desc).map (fun d => d.parameters.length) = some n)
    (hR : rm.frames + 1 ≤ R.frames ∧ 8 + (maxL + 11) + rm.locals ≤ R.locals) : va_CN R s args own index y host bytes maxL none (Cond.code y bytes maxL none :: gG) rm rm.cells rm.slots n ∧ y.name = "<init>" ∧ (Cond.instanceMethod y).before args s = true := ⟨va_cnB n hG (goodG hc) rfl rfl rfl hl (hG _ hini) hd hR, hy, hG _ hi⟩
end CW
theorem preB {av : List Value} {D : va_G} {tys : List (ClassId × FieldType)} {sz : Nat} {Wc : va_W} : FrameBlind (va_Pc av (PRE D tys sz Wc)) := fun a U g mk q => by
  obtain ⟨q0, q1, qP, qK, qD, qN⟩ := q
  exact ⟨q0, q1, qP, va_K.moved (u := U) (U := U.calling g mk a) (Vm.Alike.refl U.vm) qK, qD, NST.same (U := U.calling g mk a) rfl qN⟩
theorem preU {av : List Value} {D : va_G} {tys : List (ClassId × FieldType)} {Wc ws : va_W} {A : Nat → Prop} {s : State} {H : Heap} {isC : List Nat} (hN : NST s) (hK : va_K D vwCl tys s) (hP : va_P D vwCl ws H) (hD : va_D A ws) (hnC : va_nd isC = true) (hC : isC.map (fun i => ws[i]?) = Wc.map some) :
    ∀ U : State, U.heap = H → s.WarmedH U.vm → va_Pc av (PRE D tys H.size Wc) av.toArray U := fun U hU hW =>
  ⟨rfl, by rw [hU], by rw [hU]; exact hP.sub isC (mapSub hC), va_K.moved hW.alike hK, (hD.sub isC hnC hC).weaken (fun _ _ _ _ => trivial), NST.warm hW hN⟩
/-- cells of a world put back at their places -/
def setL : va_W → List Nat → va_W → va_W
  | ws, i :: is, q :: qs => setL (ws.set i q) is qs
  | ws, _, _ => ws
theorem setL_get : ∀ (is : List Nat) (qs ws : va_W) (k : Nat) (q : Nat × va_E), (setL ws is qs)[k]? = some q → is.length = qs.length → (∃ j : Nat, is[j]? = some k ∧ qs[j]? = some q) ∨ (k ∉ is ∧ ws[k]? = some q) := by
  intro is
  induction is with
  | nil => intro qs ws k q h hl; exact Or.inr ⟨List.not_mem_nil, by cases qs <;> exact h⟩
  | cons i is ih =>
    intro qs ws k q h hl
    cases qs with
    | nil => simp at hl
    | cons q0 qs =>
      rcases ih qs (ws.set i q0) k q h (by simpa using hl) with ⟨j, h1, h2⟩ | ⟨h1, h2⟩
      · exact Or.inl ⟨j + 1, by simpa using h1, by simpa using h2⟩
      · by_cases e : k = i
        · subst e
          refine Or.inl ⟨0, rfl, ?_⟩
          rw [List.getElem?_set] at h2
          simp only [if_true] at h2
          split at h2
          · exact h2
          · cases h2
        · refine Or.inr ⟨fun h => (List.mem_cons.mp h).elim e h1, ?_⟩
          rw [List.getElem?_set, if_neg (fun z => e z.symm)] at h2
          exact h2
theorem pickAt {ws : va_W} : ∀ (is : List Nat) (wc : va_W), is.filterMap (fun i => ws[i]?) = wc → wc.length = is.length → is.map (fun i => ws[i]?) = wc.map some := by
  intro is
  induction is with
  | nil => intro wc h hl; subst h; rfl
  | cons i is ih =>
    intro wc h hl
    subst h
    cases hi : ws[i]? with
    | none =>
      rw [List.filterMap_cons_none hi] at hl
      have := List.length_filterMap_le (fun i => ws[i]?) is
      have h2 : (is.filterMap (fun i => ws[i]?)).length = is.length + 1 := hl
      exact absurd (h2 ▸ this) (Nat.not_succ_le_self _)
    | some q =>
      rw [List.filterMap_cons_some hi] at hl ⊢
      simp only [List.map_cons, hi]
      exact congrArg _ (ih _ rfl (by simpa using hl))
theorem backAt {A0 : Nat → Prop} {D : va_G} {cl : List vw_C} {ws wc w1 : va_W} {H H1 : Heap} (hP : va_P D cl ws H) (hD : va_D A0 ws) (isC : List Nat) (hC : isC.map (fun i => ws[i]?) = wc.map some) (hl : isC.length = w1.length)
    (hk : ∀ q : Nat, q < H.size → ¬ va_A wc H.size q → H1[q]? = H[q]?) (hF : ∀ q, va_A wc H.size q → A0 q) (hP1 : va_P D cl w1 H1) (hD1 : va_D (va_A wc H.size) w1) : va_P D cl (setL ws isC w1) H1 ∧ va_D A0 (setL ws isC w1) := by
  have at' : ∀ (k : Nat) (q : Nat × va_E), wc[k]? = some q → ∃ i, isC[k]? = some i ∧ ws[i]? = some q := by
    intro k q hq
    have h1 : (isC.map (fun i => ws[i]?))[k]? = some (some q) := by rw [hC, List.getElem?_map, hq]; rfl
    rw [List.getElem?_map] at h1
    cases hi : isC[k]? with
    | none => rw [hi] at h1; cases h1
    | some i => rw [hi] at h1; exact ⟨i, rfl, Option.some.inj h1⟩
  have apart : ∀ (k : Nat) (q : Nat × va_E), k ∉ isC → ws[k]? = some q → q.1 < H.size ∧ ¬ va_A wc H.size q.1 := by
    intro k q hn hq
    have hlt := (hP k q hq).lt
    refine ⟨hlt, fun h => ?_⟩
    rcases h with ⟨k2, e, h⟩ | h
    · obtain ⟨i, h3, h4⟩ := at' k2 (q.1, e) h
      have hij := hD.1 i k (q.1, e) q h4 hq rfl
      subst hij
      exact hn (List.mem_of_getElem? h3)
    · omega
  refine ⟨fun k q hq => ?_, fun i j x y hx hy hxy => ?_, fun k q hq => ?_⟩
  · rcases setL_get isC w1 ws k q hq hl with ⟨j, -, h2⟩ | ⟨h1, h2⟩
    · exact hP1 j q h2
    · obtain ⟨g1, g2⟩ := apart k q h1 h2
      exact (hP k q h2).kept (hk q.1 g1 g2)
  · rcases setL_get isC w1 ws i x hx hl with ⟨a, a1, a2⟩ | ⟨a1, a2⟩ <;> rcases setL_get isC w1 ws j y hy hl with ⟨b, b1, b2⟩ | ⟨b1, b2⟩
    · have := hD1.1 a b x y a2 b2 hxy
      subst this
      exact Option.some.inj (a1.symm.trans b1)
    · exact absurd (hxy ▸ hD1.2 a x a2) (apart j y b1 b2).2
    · exact absurd (hxy ▸ hD1.2 b y b2) (apart i x a1 a2).2
    · exact hD.1 i j x y a2 b2 hxy
  · rcases setL_get isC w1 ws k q hq hl with ⟨j, -, h2⟩ | ⟨h1, h2⟩
    · exact hF _ (hD1.2 j q h2)
    · exact hD.2 k q h2
section RW
variable {p : Program} {l : Launch} {e : Env} {R : Room} {s : State} {m : MethodId} {args : Array Value} {below : List Frame} {meth : Method} {c : Code} {H : Heap} {locs : List Loc} {cells slots : Nat} {Q : State → Prop}
variable {cc : ByteArray} {pc : Nat} {ls : Array Slot} {rest : List Value} {D : va_G} {A : Nat → Prop} {tys : List (ClassId × FieldType)} {ws : va_W}
theorem tI {x y : Int32} (h : x = y) (k : W p l e R s m args below meth c H locs cells slots Q (F0 m pc ls (.int y :: rest))) : W p l e R s m args below meth c H locs cells slots Q (F0 m pc ls (.int x :: rest)) := h ▸ k
theorem tL {x y : Int64} (h : x = y) (k : W p l e R s m args below meth c H locs cells slots Q (F0 m pc ls (.long y :: rest))) : W p l e R s m args below meth c H locs cells slots Q (F0 m pc ls (.long x :: rest)) := h ▸ k
section LQ
variable {x y : Int64} {off : Int} {tgt : Nat}
theorem lq_eq (hx : p.tables.exec = Jvm.exec) (hb : c.code = cc) (d1 : decode cc pc = .ok (.lcmp, 1)) (d2 : decode cc (pc + 1) = .ok (.ifCond .eq off, 3)) (ht : ((pc + 1 : Nat) : Int) + off = (tgt : Int))
    (kt : x = y → W p l e R s m args below meth c H locs cells slots Q (F0 m tgt ls rest)) (kf : ¬ x = y → W p l e R s m args below meth c H locs cells slots Q (F0 m (pc + 1 + 3) ls rest)) : W p l e R s m args below meth c H locs cells slots Q (F0 m pc ls (.long y :: .long x :: rest)) :=
  W.lcmp hx hb d1 (lv_if_eq hx hb d2 ht (fun h => kt ((lg_cmp_eq x y).mp h)) (fun h => kf (fun z => h ((lg_cmp_eq x y).mpr z))))
theorem lq_ne (hx : p.tables.exec = Jvm.exec) (hb : c.code = cc) (d1 : decode cc pc = .ok (.lcmp, 1)) (d2 : decode cc (pc + 1) = .ok (.ifCond .ne off, 3)) (ht : ((pc + 1 : Nat) : Int) + off = (tgt : Int))
    (kt : ¬ x = y → W p l e R s m args below meth c H locs cells slots Q (F0 m tgt ls rest)) (kf : x = y → W p l e R s m args below meth c H locs cells slots Q (F0 m (pc + 1 + 3) ls rest)) : W p l e R s m args below meth c H locs cells slots Q (F0 m pc ls (.long y :: .long x :: rest)) :=
  W.lcmp hx hb d1 (lv_if_ne hx hb d2 ht (fun h => kt (fun z => h ((lg_cmp_eq x y).mpr z))) (fun h => kf ((lg_cmp_eq x y).mp h)))
theorem lq_lt (hx : p.tables.exec = Jvm.exec) (hb : c.code = cc) (d1 : decode cc pc = .ok (.lcmp, 1)) (d2 : decode cc (pc + 1) = .ok (.ifCond .lt off, 3)) (ht : ((pc + 1 : Nat) : Int) + off = (tgt : Int))
    (kt : x < y → W p l e R s m args below meth c H locs cells slots Q (F0 m tgt ls rest)) (kf : ¬ x < y → W p l e R s m args below meth c H locs cells slots Q (F0 m (pc + 1 + 3) ls rest)) : W p l e R s m args below meth c H locs cells slots Q (F0 m pc ls (.long y :: .long x :: rest)) :=
  W.lcmp hx hb d1 (lv_if_lt hx hb d2 ht (fun h => kt ((lg_cmp_lt x y).mp h)) (fun h => kf (fun z => h ((lg_cmp_lt x y).mpr z))))
theorem lq_ge (hx : p.tables.exec = Jvm.exec) (hb : c.code = cc) (d1 : decode cc pc = .ok (.lcmp, 1)) (d2 : decode cc (pc + 1) = .ok (.ifCond .ge off, 3)) (ht : ((pc + 1 : Nat) : Int) + off = (tgt : Int))
    (kt : y ≤ x → W p l e R s m args below meth c H locs cells slots Q (F0 m tgt ls rest)) (kf : ¬ y ≤ x → W p l e R s m args below meth c H locs cells slots Q (F0 m (pc + 1 + 3) ls rest)) : W p l e R s m args below meth c H locs cells slots Q (F0 m pc ls (.long y :: .long x :: rest)) :=
  W.lcmp hx hb d1 (lv_if_ge hx hb d2 ht (fun h => kt ((lg_cmp_ge x y).mp h)) (fun h => kf (fun z => h ((lg_cmp_ge x y).mpr z))))
theorem lq_b (hx : p.tables.exec = Jvm.exec) (hb : c.code = cc) (d1 : decode cc pc = .ok (.lcmp, 1)) (d2 : decode cc (pc + 1) = .ok (.ifCond .eq 7, 3)) (d3 : decode cc (pc + 1 + 3) = .ok (.iconst 1, 1)) (d4 : decode cc (pc + 1 + 3 + 1) = .ok (.goto 4, 3)) (d5 : decode cc (pc + 8) = .ok (.iconst 0, 1))
    (k : W p l e R s m args below meth c H locs cells slots Q (F0 m (pc + 9) ls (.int (if x = y then 0 else 1) :: rest))) : W p l e R s m args below meth c H locs cells slots Q (F0 m pc ls (.long y :: .long x :: rest)) := by
  refine lq_eq (tgt := pc + 8) hx hb d1 d2 (by omega) (fun h => ?_) (fun h => ?_)
  · rw [if_pos h] at k
    exact lv_iconst (v := 0) hx hb d5 (by decide) k
  · rw [if_neg h] at k
    exact lv_iconst (v := 1) hx hb d3 (by decide) (lv_goto (tgt := pc + 9) hx hb d4 (by omega) k)
end LQ
/-- a put: the world behind it by its name -/
theorem pu {a : Nat} {H0 : Heap} {W' : va_W} (hx : p.tables.exec = Jvm.exec) (hb : c.code = cc) {own ref C : String} {T : u_T} {N ci index : Nat} (hts : ∀ w ∈ gG, w.before args s = true) (hin : ∀ w ∈ u_ws C T N, w ∈ gG) (ty0 : Nat → FieldType) (hty : ∀ k, k < N → parseFieldDescriptor (T k).2.2.1 = some (ty0 k)) (hnm : ∀ a, a < N → ∀ b, b < N → a ≠ b → (T a).2.1 ≠ (T b).2.1) (hown : s.vm.findClass own = some m.cls)
    (hK : va_K D vwCl tys s) (hP : va_P D vwCl ws H) (hD : va_D A ws) (hS0 : va_S A H0 H locs) (q0 : Nat) {fs : List Value} (he : ws[q0]? = some (a, .inr (ci, fs))) (hc : vwCl[ci]? = some (C, T, N)) (k : Nat) (hk : k < N) (hlink : (Cond.fieldLink own index ref (T k).2.1 (T k).2.2.1).before args s = true) (hsame : ∀ x, s.fieldFound? (T k).1 (T k).2.1 (T k).2.2.1 = some x → s.fieldFound? ref (T k).2.1 (T k).2.2.1 = some x) (hfin : (T k).2.2.2 = false)
    {ty : FieldType} {v : Value} (hd : parseFieldDescriptor (T k).2.2.1 = some ty) (hn : narrow ty v = v) (hfit : fits ty v = true) (hl : k < fs.length) (hdg : decode cc pc = .ok (.putfield index, 3)) (hW' : ws.set q0 (a, .inr (ci, fs.set k v)) = W')
    (kk : ∀ (H1 : Heap) (locs1 : List Loc), va_P D vwCl W' H1 → va_D A W' → va_S A H0 H1 locs1 → W p l e R s m args below meth c H1 locs1 cells slots Q (F0 m (pc + 3) ls rest)) : W p l e R s m args below meth c H locs cells slots Q (F0 m pc ls (v :: .ref a :: rest)) := by
  subst hW'
  exact va_put hx hb hts hin ty0 hty hnm hown hK hP hD hS0 q0 he hc k hk hlink hsame hfin hd hn hfit hl hdg kk
theorem gi {a : Nat} (hx : p.tables.exec = Jvm.exec) (hb : c.code = cc) (hK : va_K D vwCl tys s) (hP : va_P D vwCl ws H) (q0 t0 : Nat) {cA : ClassId} {n : Nat} {f : Nat → Int32} (ha : ws[q0]? = some (a, .inl (cA, n, .inl f))) (ht : tys[t0]? = some (cA, .int)) {i : Int32} {j : Nat} (hin : vp_in i n) (hj : i.toNatClampNeg = j) (hdg : decode cc pc = .ok (.iaload, 1))
    (kk : W p l e R s m args below meth c H locs cells slots Q (F0 m (pc + 1) ls (.int (f j) :: rest))) : W p l e R s m args below meth c H locs cells slots Q (F0 m pc ls (.int i :: .ref a :: rest)) := by
  subst hj
  exact va_iald hx hb hK hP q0 t0 ha ht hin hdg kk
theorem gl {a : Nat} (hx : p.tables.exec = Jvm.exec) (hb : c.code = cc) (hK : va_K D vwCl tys s) (hP : va_P D vwCl ws H) (q0 t0 : Nat) {cA : ClassId} {n : Nat} {f : Nat → Int64} (ha : ws[q0]? = some (a, .inl (cA, n, .inr (.inl f)))) (ht : tys[t0]? = some (cA, .long)) {i : Int32} {j : Nat} (hin : vp_in i n) (hj : i.toNatClampNeg = j) (hdg : decode cc pc = .ok (.laload, 1))
    (kk : W p l e R s m args below meth c H locs cells slots Q (F0 m (pc + 1) ls (.long (f j) :: rest))) : W p l e R s m args below meth c H locs cells slots Q (F0 m pc ls (.int i :: .ref a :: rest)) := by
  subst hj
  exact va_lald hx hb hK hP q0 t0 ha ht hin hdg kk
theorem gq {a : Nat} (hx : p.tables.exec = Jvm.exec) (hb : c.code = cc) (hK : va_K D vwCl tys s) (hP : va_P D vwCl ws H) (q0 t0 : Nat) {cA : ClassId} {C : String} {n x : Nat} {f : Nat → Option Nat} (ha : ws[q0]? = some (a, .inl (cA, n, .inr (.inr (.inr (.inr f)))))) (ht : tys[t0]? = some (cA, .object C)) {i : Int32} {j : Nat} (hin : vp_in i n) (hj : i.toNatClampNeg = j) (hf : f j = some x) (hdg : decode cc pc = .ok (.aaload, 1))
    (kk : W p l e R s m args below meth c H locs cells slots Q (F0 m (pc + 1) ls (.ref x :: rest))) : W p l e R s m args below meth c H locs cells slots Q (F0 m pc ls (.int i :: .ref a :: rest)) := by
  subst hj
  refine va_aldq hx hb hK hP q0 t0 ha ht hin hdg ?_
  rw [hf]
  exact kk
theorem si {a : Nat} {H0 : Heap} {W' : va_W} (hx : p.tables.exec = Jvm.exec) (hb : c.code = cc) (hK : va_K D vwCl tys s) (hP : va_P D vwCl ws H) (hD : va_D A ws) (hS : va_S A H0 H locs) (q0 t0 : Nat) {cA : ClassId} {n : Nat} {f : Nat → Int32} (ha : ws[q0]? = some (a, .inl (cA, n, .inl f))) (ht : tys[t0]? = some (cA, .int)) {i x : Int32} {j : Nat} (hin : vp_in i n) (hj : i.toNatClampNeg = j) (hdg : decode cc pc = .ok (.iastore, 1)) (hW' : ws.set q0 (a, .inl (cA, n, .inl (upd f j x))) = W')
    (kk : ∀ (H1 : Heap) (locs1 : List Loc), va_P D vwCl W' H1 → va_D A W' → va_S A H0 H1 locs1 → W p l e R s m args below meth c H1 locs1 cells slots Q (F0 m (pc + 1) ls rest)) : W p l e R s m args below meth c H locs cells slots Q (F0 m pc ls (.int x :: .int i :: .ref a :: rest)) := by
  subst hj; subst hW'
  exact va_iast hx hb hK hP hD hS q0 t0 ha ht hin hdg kk
theorem sl {a : Nat} {H0 : Heap} {W' : va_W} (hx : p.tables.exec = Jvm.exec) (hb : c.code = cc) (hK : va_K D vwCl tys s) (hP : va_P D vwCl ws H) (hD : va_D A ws) (hS : va_S A H0 H locs) (q0 t0 : Nat) {cA : ClassId} {n : Nat} {f : Nat → Int64} (ha : ws[q0]? = some (a, .inl (cA, n, .inr (.inl f)))) (ht : tys[t0]? = some (cA, .long)) {i : Int32} {x : Int64} {j : Nat} (hin : vp_in i n) (hj : i.toNatClampNeg = j) (hdg : decode cc pc = .ok (.lastore, 1)) (hW' : ws.set q0 (a, .inl (cA, n, .inr (.inl (vp_updL f j x)))) = W')
    (kk : ∀ (H1 : Heap) (locs1 : List Loc), va_P D vwCl W' H1 → va_D A W' → va_S A H0 H1 locs1 → W p l e R s m args below meth c H1 locs1 cells slots Q (F0 m (pc + 1) ls rest)) : W p l e R s m args below meth c H locs cells slots Q (F0 m pc ls (.long x :: .int i :: .ref a :: rest)) := by
  subst hj; subst hW'
  exact va_last hx hb hK hP hD hS q0 t0 ha ht hin hdg kk
section ENDS
variable {S : Type} {w1 : S → va_W} {u : S}
theorem reti {post : Int32 → S → Prop} {r : Int32} (hx : p.tables.exec = Jvm.exec) (hb : c.code = cc) (hr : meth.sig.returnType = some .int) (hlocks : meth.locks = false) (hK : va_K D vwCl tys s) (hP : va_P D vwCl (w1 u) H) (hD : va_D A (w1 u)) (hS : va_S A s.heap H locs) (hdg : decode cc pc = .ok (.ireturn, 1)) (hp : post r u) :
    W p l e R s m args below meth c H locs cells slots (MQ below (va_Qi post (AT D tys A w1) A) args s cells slots A) (F0 m pc ls [.int r]) :=
  W.iret hx hb hr (fun t ht hW => ⟨⟨r, u, rfl, hp, by rw [ht]; exact hP, va_K.moved hW.alike hK, hD⟩, hS.F ht⟩) hS.2.2 hdg hlocks
theorem retz {post : Int32 → S → Prop} {r : Int32} (hx : p.tables.exec = Jvm.exec) (hb : c.code = cc) (hr : meth.sig.returnType = some .boolean) (hlocks : meth.locks = false) (hn : narrow .boolean (.int r) = .int r) (hK : va_K D vwCl tys s) (hP : va_P D vwCl (w1 u) H) (hD : va_D A (w1 u)) (hS : va_S A s.heap H locs) (hdg : decode cc pc = .ok (.ireturn, 1)) (hp : post r u) :
    W p l e R s m args below meth c H locs cells slots (MQ below (va_Qi post (AT D tys A w1) A) args s cells slots A) (F0 m pc ls [.int r]) :=
  W.zret hx hb hr hn (fun t ht hW => ⟨⟨r, u, rfl, hp, by rw [ht]; exact hP, va_K.moved hW.alike hK, hD⟩, hS.F ht⟩) hS.2.2 hdg hlocks
theorem retl {post : Int64 → S → Prop} {r : Int64} (hx : p.tables.exec = Jvm.exec) (hb : c.code = cc) (hr : meth.sig.returnType = some .long) (hlocks : meth.locks = false) (hK : va_K D vwCl tys s) (hP : va_P D vwCl (w1 u) H) (hD : va_D A (w1 u)) (hS : va_S A s.heap H locs) (hdg : decode cc pc = .ok (.lreturn, 1)) (hp : post r u) :
    W p l e R s m args below meth c H locs cells slots (MQ below (va_Ql post (AT D tys A w1) A) args s cells slots A) (F0 m pc ls [.long r]) :=
  W.lret hx hb hr (fun t ht hW => ⟨⟨r, u, rfl, hp, by rw [ht]; exact hP, va_K.moved hW.alike hK, hD⟩, hS.F ht⟩) hS.2.2 hdg hlocks
theorem retv {post : S → Prop} (hx : p.tables.exec = Jvm.exec) (hb : c.code = cc) (hr : meth.sig.returnType = none) (hlocks : meth.locks = false) (hK : va_K D vwCl tys s) (hP : va_P D vwCl (w1 u) H) (hD : va_D A (w1 u)) (hS : va_S A s.heap H locs) (hdg : decode cc pc = .ok (.return_, 1)) (hp : post u) :
    W p l e R s m args below meth c H locs cells slots (MQ below (va_Qv post (AT D tys A w1) A) args s cells slots A) (F0 m pc ls []) :=
  W.vret hx hb hr (fun t ht hW => ⟨⟨u, rfl, hp, by rw [ht]; exact hP, va_K.moved hW.alike hK, hD⟩, hS.F ht⟩) hS.2.2 hdg hlocks
theorem retr {post : S → Prop} {rt : FieldType} {ra : Nat} (hx : p.tables.exec = Jvm.exec) (hb : c.code = cc) (hr : meth.sig.returnType = some rt) (hlocks : meth.locks = false) (hrt : (∃ n, rt = .object n) ∨ ∃ t, rt = .array t) (hK : va_K D vwCl tys s) (hP : va_P D vwCl (w1 u) H) (hD : va_D A (w1 u)) (hS : va_S A s.heap H locs) (hdg : decode cc pc = .ok (.areturn, 1)) (hp : post u) :
    W p l e R s m args below meth c H locs cells slots (MQ below (va_Qr post (fun u a t => a = ra ∧ AT D tys A w1 u t) A) args s cells slots A) (F0 m pc ls [.ref ra]) :=
  W.aret hx hb hr hrt (Or.inr ⟨ra, rfl⟩) (fun t ht hW => ⟨⟨u, ra, rfl, hp, rfl, by rw [ht]; exact hP, va_K.moved hW.alike hK, hD⟩, hS.F ht⟩) hS.2.2 hdg hlocks
end ENDS
theorem kVi {S : Type} {post : Int32 → S → Prop} {w1 W' : S → va_W} {Wc : va_W} {rm : Room} {y : MethodName} {bytes : ByteArray} {maxL nL n index : Nat} {ret : Option FieldType} {own : String} {b : Nat} {As st0 : List Value} {lv : List (Nat × Value)} {T : u_T} {N : Nat} {fs : List Value}
    (hx : p.tables.exec = Jvm.exec) (hb : c.code = cc) (hml : c.maxLocals = nL) (hown : s.vm.findClass own = some m.cls) (hG : ∀ w ∈ gG, w.before args s = true) (hl : lv_has ls nL lv)
    (hM : Met l y (Cond.code y bytes maxL ret :: gG) rm (va_Pc (.ref b :: As) (PRE D tys H.size Wc)) (va_Qi post (AT D tys (va_A Wc H.size) w1) (va_A Wc H.size)) 0 0 (va_A Wc H.size)) (cw : CallW R s args own y.cls index y bytes maxL ret (Cond.code y bytes maxL ret :: gG) rm 0 0 n) (q0 ci : Nat) (hc : vwCl[ci]? = some (y.cls, T, N)) (he : ws[q0]? = some (b, .inr (ci, fs))) (hK : va_K D vwCl tys s) (hP : va_P D vwCl ws H) (hD : va_D A ws) (hS : va_S A s.heap H locs) (hA : ∀ q : Nat, s.heap.size ≤ q → A q) (hN : NST s)
    (isC : List Nat) (hC0 : isC.filterMap (fun i => ws[i]?) = Wc) (hCl : Wc.length = isC.length) (hnC : va_nd isC = true) (hl1 : ∀ u, isC.length = (w1 u).length) (hW : ∀ u, setL ws isC (w1 u) = W' u)
    (hnn : As.length = n) (hst : st0 = As.reverse ++ .ref b :: rest) (hro : (rest.map fun v => v.category).sum ≤ 8) (hdg : decode cc pc = .ok (.invokevirtual index, 3)) (hf : cells ≤ R.cells ∧ slots ≤ R.slots)
    (kk : ∀ (r : Int32) (u : S), post r u → ∀ (H1 : Heap) (locs1 : List Loc), va_P D vwCl (W' u) H1 → va_D A (W' u) → va_S A s.heap H1 locs1 → W p l e R s m args below meth c H1 locs1 cells slots Q (F0 m (pc + 3) ls (.int r :: rest))) : W p l e R s m args below meth c H locs cells slots Q (F0 m pc ls st0) := by
  have hC := pickAt isC Wc hC0 hCl
  have hF := va_free (wc := Wc) hD hS hA isC hC
  refine va_calli (va_runV ⟨hx, hb, hml, hown, hG⟩ hM cw ⟨preB, va_recv hK hP hc he, preU hN hK hP hD hnC hC⟩ rfl hnn hl.1 hst (lv_room hro) hdg hf) hS (fun q _ h => hF q h) hF (fun r u t H1 locs1 ht hvm hw hB hz1 hk1 hS1 => ?_)
  obtain ⟨hP1, hK1, hD1⟩ := hB
  rw [ht] at hP1
  obtain ⟨hP2, hD2⟩ := backAt hP hD isC hC (hl1 u) hk1 hF hP1 hD1
  rw [hW u] at hP2 hD2
  exact kk r u hw H1 locs1 hP2 hD2 hS1
theorem kVl {S : Type} {post : Int64 → S → Prop} {w1 W' : S → va_W} {Wc : va_W} {rm : Room} {y : MethodName} {bytes : ByteArray} {maxL nL n index : Nat} {ret : Option FieldType} {own : String} {b : Nat} {As st0 : List Value} {lv : List (Nat × Value)} {T : u_T} {N : Nat} {fs : List Value}
    (hx : p.tables.exec = Jvm.exec) (hb : c.code = cc) (hml : c.maxLocals = nL) (hown : s.vm.findClass own = some m.cls) (hG : ∀ w ∈ gG, w.before args s = true) (hl : lv_has ls nL lv)
    (hM : Met l y (Cond.code y bytes maxL ret :: gG) rm (va_Pc (.ref b :: As) (PRE D tys H.size Wc)) (va_Ql post (AT D tys (va_A Wc H.size) w1) (va_A Wc H.size)) 0 0 (va_A Wc H.size)) (cw : CallW R s args own y.cls index y bytes maxL ret (Cond.code y bytes maxL ret :: gG) rm 0 0 n) (q0 ci : Nat) (hc : vwCl[ci]? = some (y.cls, T, N)) (he : ws[q0]? = some (b, .inr (ci, fs))) (hK : va_K D vwCl tys s) (hP : va_P D vwCl ws H) (hD : va_D A ws) (hS : va_S A s.heap H locs) (hA : ∀ q : Nat, s.heap.size ≤ q → A q) (hN : NST s)
    (isC : List Nat) (hC0 : isC.filterMap (fun i => ws[i]?) = Wc) (hCl : Wc.length = isC.length) (hnC : va_nd isC = true) (hl1 : ∀ u, isC.length = (w1 u).length) (hW : ∀ u, setL ws isC (w1 u) = W' u)
    (hnn : As.length = n) (hst : st0 = As.reverse ++ .ref b :: rest) (hro : (rest.map fun v => v.category).sum ≤ 8) (hdg : decode cc pc = .ok (.invokevirtual index, 3)) (hf : cells ≤ R.cells ∧ slots ≤ R.slots)
    (kk : ∀ (r : Int64) (u : S), post r u → ∀ (H1 : Heap) (locs1 : List Loc), va_P D vwCl (W' u) H1 → va_D A (W' u) → va_S A s.heap H1 locs1 → W p l e R s m args below meth c H1 locs1 cells slots Q (F0 m (pc + 3) ls (.long r :: rest))) : W p l e R s m args below meth c H locs cells slots Q (F0 m pc ls st0) := by
  have hC := pickAt isC Wc hC0 hCl
  have hF := va_free (wc := Wc) hD hS hA isC hC
  refine va_calll (va_runV ⟨hx, hb, hml, hown, hG⟩ hM cw ⟨preB, va_recv hK hP hc he, preU hN hK hP hD hnC hC⟩ rfl hnn hl.1 hst (lv_room hro) hdg hf) hS (fun q _ h => hF q h) hF (fun r u t H1 locs1 ht hvm hw hB hz1 hk1 hS1 => ?_)
  obtain ⟨hP1, hK1, hD1⟩ := hB
  rw [ht] at hP1
  obtain ⟨hP2, hD2⟩ := backAt hP hD isC hC (hl1 u) hk1 hF hP1 hD1
  rw [hW u] at hP2 hD2
  exact kk r u hw H1 locs1 hP2 hD2 hS1
theorem kVv {S : Type} {post : S → Prop} {w1 W' : S → va_W} {Wc : va_W} {rm : Room} {y : MethodName} {bytes : ByteArray} {maxL nL n index : Nat} {ret : Option FieldType} {own : String} {b : Nat} {As st0 : List Value} {lv : List (Nat × Value)} {T : u_T} {N : Nat} {fs : List Value}
    (hx : p.tables.exec = Jvm.exec) (hb : c.code = cc) (hml : c.maxLocals = nL) (hown : s.vm.findClass own = some m.cls) (hG : ∀ w ∈ gG, w.before args s = true) (hl : lv_has ls nL lv)
    (hM : Met l y (Cond.code y bytes maxL ret :: gG) rm (va_Pc (.ref b :: As) (PRE D tys H.size Wc)) (va_Qv post (AT D tys (va_A Wc H.size) w1) (va_A Wc H.size)) 0 0 (va_A Wc H.size)) (cw : CallW R s args own y.cls index y bytes maxL ret (Cond.code y bytes maxL ret :: gG) rm 0 0 n) (q0 ci : Nat) (hc : vwCl[ci]? = some (y.cls, T, N)) (he : ws[q0]? = some (b, .inr (ci, fs))) (hK : va_K D vwCl tys s) (hP : va_P D vwCl ws H) (hD : va_D A ws) (hS : va_S A s.heap H locs) (hA : ∀ q : Nat, s.heap.size ≤ q → A q) (hN : NST s)
    (isC : List Nat) (hC0 : isC.filterMap (fun i => ws[i]?) = Wc) (hCl : Wc.length = isC.length) (hnC : va_nd isC = true) (hl1 : ∀ u, isC.length = (w1 u).length) (hW : ∀ u, setL ws isC (w1 u) = W' u)
    (hnn : As.length = n) (hst : st0 = As.reverse ++ .ref b :: rest) (hro : (rest.map fun v => v.category).sum ≤ 8) (hdg : decode cc pc = .ok (.invokevirtual index, 3)) (hf : cells ≤ R.cells ∧ slots ≤ R.slots)
    (kk : ∀ (u : S), post u → ∀ (H1 : Heap) (locs1 : List Loc), va_P D vwCl (W' u) H1 → va_D A (W' u) → va_S A s.heap H1 locs1 → W p l e R s m args below meth c H1 locs1 cells slots Q (F0 m (pc + 3) ls (rest))) : W p l e R s m args below meth c H locs cells slots Q (F0 m pc ls st0) := by
  have hC := pickAt isC Wc hC0 hCl
  have hF := va_free (wc := Wc) hD hS hA isC hC
  refine va_callv (va_runV ⟨hx, hb, hml, hown, hG⟩ hM cw ⟨preB, va_recv hK hP hc he, preU hN hK hP hD hnC hC⟩ rfl hnn hl.1 hst (lv_room hro) hdg hf) hS (fun q _ h => hF q h) hF (fun u t H1 locs1 ht hvm hw hB hz1 hk1 hS1 => ?_)
  obtain ⟨hP1, hK1, hD1⟩ := hB
  rw [ht] at hP1
  obtain ⟨hP2, hD2⟩ := backAt hP hD isC hC (hl1 u) hk1 hF hP1 hD1
  rw [hW u] at hP2 hD2
  exact kk u hw H1 locs1 hP2 hD2 hS1
theorem kVr {S : Type} {post : S → Prop} {w1 W' : S → va_W} {Wc : va_W} {rm : Room} {y : MethodName} {bytes : ByteArray} {maxL nL n index : Nat} {ret : Option FieldType} {own : String} {ra : Nat} {b : Nat} {As st0 : List Value} {lv : List (Nat × Value)} {T : u_T} {N : Nat} {fs : List Value}
    (hx : p.tables.exec = Jvm.exec) (hb : c.code = cc) (hml : c.maxLocals = nL) (hown : s.vm.findClass own = some m.cls) (hG : ∀ w ∈ gG, w.before args s = true) (hl : lv_has ls nL lv)
    (hM : Met l y (Cond.code y bytes maxL ret :: gG) rm (va_Pc (.ref b :: As) (PRE D tys H.size Wc)) (va_Qr post (fun u a t => a = ra ∧ AT D tys (va_A Wc H.size) w1 u t) (va_A Wc H.size)) 0 0 (va_A Wc H.size)) (cw : CallW R s args own y.cls index y bytes maxL ret (Cond.code y bytes maxL ret :: gG) rm 0 0 n) (q0 ci : Nat) (hc : vwCl[ci]? = some (y.cls, T, N)) (he : ws[q0]? = some (b, .inr (ci, fs))) (hK : va_K D vwCl tys s) (hP : va_P D vwCl ws H) (hD : va_D A ws) (hS : va_S A s.heap H locs) (hA : ∀ q : Nat, s.heap.size ≤ q → A q) (hN : NST s)
    (isC : List Nat) (hC0 : isC.filterMap (fun i => ws[i]?) = Wc) (hCl : Wc.length = isC.length) (hnC : va_nd isC = true) (hl1 : ∀ u, isC.length = (w1 u).length) (hW : ∀ u, setL ws isC (w1 u) = W' u)
    (hnn : As.length = n) (hst : st0 = As.reverse ++ .ref b :: rest) (hro : (rest.map fun v => v.category).sum ≤ 8) (hdg : decode cc pc = .ok (.invokevirtual index, 3)) (hf : cells ≤ R.cells ∧ slots ≤ R.slots)
    (kk : ∀ (u : S), post u → ∀ (H1 : Heap) (locs1 : List Loc), va_P D vwCl (W' u) H1 → va_D A (W' u) → va_S A s.heap H1 locs1 → W p l e R s m args below meth c H1 locs1 cells slots Q (F0 m (pc + 3) ls (.ref ra :: rest))) : W p l e R s m args below meth c H locs cells slots Q (F0 m pc ls st0) := by
  have hC := pickAt isC Wc hC0 hCl
  have hF := va_free (wc := Wc) hD hS hA isC hC
  refine va_callr (va_runV ⟨hx, hb, hml, hown, hG⟩ hM cw ⟨preB, va_recv hK hP hc he, preU hN hK hP hD hnC hC⟩ rfl hnn hl.1 hst (lv_room hro) hdg hf) hS (fun q _ h => hF q h) hF (fun u a9 t H1 locs1 ht hvm hw hB hz1 hk1 hS1 => ?_)
  obtain ⟨rfl, hP1, hK1, hD1⟩ := hB
  rw [ht] at hP1
  obtain ⟨hP2, hD2⟩ := backAt hP hD isC hC (hl1 u) hk1 hF hP1 hD1
  rw [hW u] at hP2 hD2
  exact kk u hw H1 locs1 hP2 hD2 hS1
theorem kSi {S : Type} {post : Int32 → S → Prop} {w1 W' : S → va_W} {Wc : va_W} {rm : Room} {y : MethodName} {bytes : ByteArray} {maxL nL n index : Nat} {ret : Option FieldType} {own : String} {b : Nat} {As st0 : List Value} {lv : List (Nat × Value)} {T : u_T} {N : Nat} {fs : List Value}
    (hx : p.tables.exec = Jvm.exec) (hb : c.code = cc) (hml : c.maxLocals = nL) (hown : s.vm.findClass own = some m.cls) (hG : ∀ w ∈ gG, w.before args s = true) (hl : lv_has ls nL lv)
    (hM : Met l y (Cond.code y bytes maxL ret :: gG) rm (va_Pc As (PRE D tys H.size Wc)) (va_Qi post (AT D tys (va_A Wc H.size) w1) (va_A Wc H.size)) 0 0 (va_A Wc H.size)) (cw : CallB R s args own index y bytes maxL ret (Cond.code y bytes maxL ret :: gG) rm 0 0 n ∧ (Cond.static y).before args s = true) (hK : va_K D vwCl tys s) (hP : va_P D vwCl ws H) (hD : va_D A ws) (hS : va_S A s.heap H locs) (hA : ∀ q : Nat, s.heap.size ≤ q → A q) (hN : NST s)
    (isC : List Nat) (hC0 : isC.filterMap (fun i => ws[i]?) = Wc) (hCl : Wc.length = isC.length) (hnC : va_nd isC = true) (hl1 : ∀ u, isC.length = (w1 u).length) (hW : ∀ u, setL ws isC (w1 u) = W' u)
    (hnn : As.length = n) (hst : st0 = As.reverse ++ rest) (hro : (rest.map fun v => v.category).sum ≤ 8) (hdg : decode cc pc = .ok (.invokestatic index, 3)) (hf : cells ≤ R.cells ∧ slots ≤ R.slots)
    (kk : ∀ (r : Int32) (u : S), post r u → ∀ (H1 : Heap) (locs1 : List Loc), va_P D vwCl (W' u) H1 → va_D A (W' u) → va_S A s.heap H1 locs1 → W p l e R s m args below meth c H1 locs1 cells slots Q (F0 m (pc + 3) ls (.int r :: rest))) : W p l e R s m args below meth c H locs cells slots Q (F0 m pc ls st0) := by
  have hC := pickAt isC Wc hC0 hCl
  have hF := va_free (wc := Wc) hD hS hA isC hC
  refine va_calli (va_runS ⟨hx, hb, hml, hown, hG⟩ hM cw ⟨preB, preU hN hK hP hD hnC hC⟩ rfl hnn hl.1 hst (lv_room hro) hdg hf) hS (fun q _ h => hF q h) hF (fun r u t H1 locs1 ht hvm hw hB hz1 hk1 hS1 => ?_)
  obtain ⟨hP1, hK1, hD1⟩ := hB
  rw [ht] at hP1
  obtain ⟨hP2, hD2⟩ := backAt hP hD isC hC (hl1 u) hk1 hF hP1 hD1
  rw [hW u] at hP2 hD2
  exact kk r u hw H1 locs1 hP2 hD2 hS1
theorem kSl {S : Type} {post : Int64 → S → Prop} {w1 W' : S → va_W} {Wc : va_W} {rm : Room} {y : MethodName} {bytes : ByteArray} {maxL nL n index : Nat} {ret : Option FieldType} {own : String} {b : Nat} {As st0 : List Value} {lv : List (Nat × Value)} {T : u_T} {N : Nat} {fs : List Value}
    (hx : p.tables.exec = Jvm.exec) (hb : c.code = cc) (hml : c.maxLocals = nL) (hown : s.vm.findClass own = some m.cls) (hG : ∀ w ∈ gG, w.before args s = true) (hl : lv_has ls nL lv)
    (hM : Met l y (Cond.code y bytes maxL ret :: gG) rm (va_Pc As (PRE D tys H.size Wc)) (va_Ql post (AT D tys (va_A Wc H.size) w1) (va_A Wc H.size)) 0 0 (va_A Wc H.size)) (cw : CallB R s args own index y bytes maxL ret (Cond.code y bytes maxL ret :: gG) rm 0 0 n ∧ (Cond.static y).before args s = true) (hK : va_K D vwCl tys s) (hP : va_P D vwCl ws H) (hD : va_D A ws) (hS : va_S A s.heap H locs) (hA : ∀ q : Nat, s.heap.size ≤ q → A q) (hN : NST s)
    (isC : List Nat) (hC0 : isC.filterMap (fun i => ws[i]?) = Wc) (hCl : Wc.length = isC.length) (hnC : va_nd isC = true) (hl1 : ∀ u, isC.length = (w1 u).length) (hW : ∀ u, setL ws isC (w1 u) = W' u)
    (hnn : As.length = n) (hst : st0 = As.reverse ++ rest) (hro : (rest.map fun v => v.category).sum ≤ 8) (hdg : decode cc pc = .ok (.invokestatic index, 3)) (hf : cells ≤ R.cells ∧ slots ≤ R.slots)
    (kk : ∀ (r : Int64) (u : S), post r u → ∀ (H1 : Heap) (locs1 : List Loc), va_P D vwCl (W' u) H1 → va_D A (W' u) → va_S A s.heap H1 locs1 → W p l e R s m args below meth c H1 locs1 cells slots Q (F0 m (pc + 3) ls (.long r :: rest))) : W p l e R s m args below meth c H locs cells slots Q (F0 m pc ls st0) := by
  have hC := pickAt isC Wc hC0 hCl
  have hF := va_free (wc := Wc) hD hS hA isC hC
  refine va_calll (va_runS ⟨hx, hb, hml, hown, hG⟩ hM cw ⟨preB, preU hN hK hP hD hnC hC⟩ rfl hnn hl.1 hst (lv_room hro) hdg hf) hS (fun q _ h => hF q h) hF (fun r u t H1 locs1 ht hvm hw hB hz1 hk1 hS1 => ?_)
  obtain ⟨hP1, hK1, hD1⟩ := hB
  rw [ht] at hP1
  obtain ⟨hP2, hD2⟩ := backAt hP hD isC hC (hl1 u) hk1 hF hP1 hD1
  rw [hW u] at hP2 hD2
  exact kk r u hw H1 locs1 hP2 hD2 hS1
theorem kSv {S : Type} {post : S → Prop} {w1 W' : S → va_W} {Wc : va_W} {rm : Room} {y : MethodName} {bytes : ByteArray} {maxL nL n index : Nat} {ret : Option FieldType} {own : String} {b : Nat} {As st0 : List Value} {lv : List (Nat × Value)} {T : u_T} {N : Nat} {fs : List Value}
    (hx : p.tables.exec = Jvm.exec) (hb : c.code = cc) (hml : c.maxLocals = nL) (hown : s.vm.findClass own = some m.cls) (hG : ∀ w ∈ gG, w.before args s = true) (hl : lv_has ls nL lv)
    (hM : Met l y (Cond.code y bytes maxL ret :: gG) rm (va_Pc As (PRE D tys H.size Wc)) (va_Qv post (AT D tys (va_A Wc H.size) w1) (va_A Wc H.size)) 0 0 (va_A Wc H.size)) (cw : CallB R s args own index y bytes maxL ret (Cond.code y bytes maxL ret :: gG) rm 0 0 n ∧ (Cond.static y).before args s = true) (hK : va_K D vwCl tys s) (hP : va_P D vwCl ws H) (hD : va_D A ws) (hS : va_S A s.heap H locs) (hA : ∀ q : Nat, s.heap.size ≤ q → A q) (hN : NST s)
    (isC : List Nat) (hC0 : isC.filterMap (fun i => ws[i]?) = Wc) (hCl : Wc.length = isC.length) (hnC : va_nd isC = true) (hl1 : ∀ u, isC.length = (w1 u).length) (hW : ∀ u, setL ws isC (w1 u) = W' u)
    (hnn : As.length = n) (hst : st0 = As.reverse ++ rest) (hro : (rest.map fun v => v.category).sum ≤ 8) (hdg : decode cc pc = .ok (.invokestatic index, 3)) (hf : cells ≤ R.cells ∧ slots ≤ R.slots)
    (kk : ∀ (u : S), post u → ∀ (H1 : Heap) (locs1 : List Loc), va_P D vwCl (W' u) H1 → va_D A (W' u) → va_S A s.heap H1 locs1 → W p l e R s m args below meth c H1 locs1 cells slots Q (F0 m (pc + 3) ls (rest))) : W p l e R s m args below meth c H locs cells slots Q (F0 m pc ls st0) := by
  have hC := pickAt isC Wc hC0 hCl
  have hF := va_free (wc := Wc) hD hS hA isC hC
  refine va_callv (va_runS ⟨hx, hb, hml, hown, hG⟩ hM cw ⟨preB, preU hN hK hP hD hnC hC⟩ rfl hnn hl.1 hst (lv_room hro) hdg hf) hS (fun q _ h => hF q h) hF (fun u t H1 locs1 ht hvm hw hB hz1 hk1 hS1 => ?_)
  obtain ⟨hP1, hK1, hD1⟩ := hB
  rw [ht] at hP1
  obtain ⟨hP2, hD2⟩ := backAt hP hD isC hC (hl1 u) hk1 hF hP1 hD1
  rw [hW u] at hP2 hD2
  exact kk u hw H1 locs1 hP2 hD2 hS1
theorem kSr {S : Type} {post : S → Prop} {w1 W' : S → va_W} {Wc : va_W} {rm : Room} {y : MethodName} {bytes : ByteArray} {maxL nL n index : Nat} {ret : Option FieldType} {own : String} {ra : Nat} {b : Nat} {As st0 : List Value} {lv : List (Nat × Value)} {T : u_T} {N : Nat} {fs : List Value}
    (hx : p.tables.exec = Jvm.exec) (hb : c.code = cc) (hml : c.maxLocals = nL) (hown : s.vm.findClass own = some m.cls) (hG : ∀ w ∈ gG, w.before args s = true) (hl : lv_has ls nL lv)
    (hM : Met l y (Cond.code y bytes maxL ret :: gG) rm (va_Pc As (PRE D tys H.size Wc)) (va_Qr post (fun u a t => a = ra ∧ AT D tys (va_A Wc H.size) w1 u t) (va_A Wc H.size)) 0 0 (va_A Wc H.size)) (cw : CallB R s args own index y bytes maxL ret (Cond.code y bytes maxL ret :: gG) rm 0 0 n ∧ (Cond.static y).before args s = true) (hK : va_K D vwCl tys s) (hP : va_P D vwCl ws H) (hD : va_D A ws) (hS : va_S A s.heap H locs) (hA : ∀ q : Nat, s.heap.size ≤ q → A q) (hN : NST s)
    (isC : List Nat) (hC0 : isC.filterMap (fun i => ws[i]?) = Wc) (hCl : Wc.length = isC.length) (hnC : va_nd isC = true) (hl1 : ∀ u, isC.length = (w1 u).length) (hW : ∀ u, setL ws isC (w1 u) = W' u)
    (hnn : As.length = n) (hst : st0 = As.reverse ++ rest) (hro : (rest.map fun v => v.category).sum ≤ 8) (hdg : decode cc pc = .ok (.invokestatic index, 3)) (hf : cells ≤ R.cells ∧ slots ≤ R.slots)
    (kk : ∀ (u : S), post u → ∀ (H1 : Heap) (locs1 : List Loc), va_P D vwCl (W' u) H1 → va_D A (W' u) → va_S A s.heap H1 locs1 → W p l e R s m args below meth c H1 locs1 cells slots Q (F0 m (pc + 3) ls (.ref ra :: rest))) : W p l e R s m args below meth c H locs cells slots Q (F0 m pc ls st0) := by
  have hC := pickAt isC Wc hC0 hCl
  have hF := va_free (wc := Wc) hD hS hA isC hC
  refine va_callr (va_runS ⟨hx, hb, hml, hown, hG⟩ hM cw ⟨preB, preU hN hK hP hD hnC hC⟩ rfl hnn hl.1 hst (lv_room hro) hdg hf) hS (fun q _ h => hF q h) hF (fun u a9 t H1 locs1 ht hvm hw hB hz1 hk1 hS1 => ?_)
  obtain ⟨rfl, hP1, hK1, hD1⟩ := hB
  rw [ht] at hP1
  obtain ⟨hP2, hD2⟩ := backAt hP hD isC hC (hl1 u) hk1 hF hP1 hD1
  rw [hW u] at hP2 hD2
  exact kk u hw H1 locs1 hP2 hD2 hS1
theorem kSNi {S : Type} {post : Int32 → S → Prop} {w1 W' : S → va_W} {Wc : va_W} {rm : Room} {y : MethodName} {bytes : ByteArray} {maxL nL n index : Nat} {ret : Option FieldType} {own : String} {host : String} {b : Nat} {As st0 : List Value} {lv : List (Nat × Value)} {T : u_T} {N : Nat} {fs : List Value}
    (hx : p.tables.exec = Jvm.exec) (hb : c.code = cc) (hml : c.maxLocals = nL) (hown : s.vm.findClass own = some m.cls) (hG : ∀ w ∈ gG, w.before args s = true) (hl : lv_has ls nL lv)
    (hM : Met l y (Cond.code y bytes maxL ret :: gG) rm (va_Pc As (PRE D tys H.size Wc)) (va_Qi post (AT D tys (va_A Wc H.size) w1) (va_A Wc H.size)) 0 0 (va_A Wc H.size)) (cw : va_CN R s args own index y host bytes maxL ret (Cond.code y bytes maxL ret :: gG) rm 0 0 n ∧ (Cond.static y).before args s = true ∧ True) (hK : va_K D vwCl tys s) (hP : va_P D vwCl ws H) (hD : va_D A ws) (hS : va_S A s.heap H locs) (hA : ∀ q : Nat, s.heap.size ≤ q → A q) (hN : NST s)
    (isC : List Nat) (hC0 : isC.filterMap (fun i => ws[i]?) = Wc) (hCl : Wc.length = isC.length) (hnC : va_nd isC = true) (hl1 : ∀ u, isC.length = (w1 u).length) (hW : ∀ u, setL ws isC (w1 u) = W' u)
    (hnn : As.length = n) (hst : st0 = As.reverse ++ rest) (hro : (rest.map fun v => v.category).sum ≤ 8) (hdg : decode cc pc = .ok (.invokestatic index, 3)) (hf : cells ≤ R.cells ∧ slots ≤ R.slots)
    (kk : ∀ (r : Int32) (u : S), post r u → ∀ (H1 : Heap) (locs1 : List Loc), va_P D vwCl (W' u) H1 → va_D A (W' u) → va_S A s.heap H1 locs1 → W p l e R s m args below meth c H1 locs1 cells slots Q (F0 m (pc + 3) ls (.int r :: rest))) : W p l e R s m args below meth c H locs cells slots Q (F0 m pc ls st0) := by
  have hC := pickAt isC Wc hC0 hCl
  have hF := va_free (wc := Wc) hD hS hA isC hC
  refine va_calli (va_runSN ⟨hx, hb, hml, hown, hG⟩ hM cw ⟨preB, preU hN hK hP hD hnC hC⟩ rfl hnn hl.1 hst (lv_room hro) hdg hf) hS (fun q _ h => hF q h) hF (fun r u t H1 locs1 ht hvm hw hB hz1 hk1 hS1 => ?_)
  obtain ⟨hP1, hK1, hD1⟩ := hB
  rw [ht] at hP1
  obtain ⟨hP2, hD2⟩ := backAt hP hD isC hC (hl1 u) hk1 hF hP1 hD1
  rw [hW u] at hP2 hD2
  exact kk r u hw H1 locs1 hP2 hD2 hS1
theorem kSNl {S : Type} {post : Int64 → S → Prop} {w1 W' : S → va_W} {Wc : va_W} {rm : Room} {y : MethodName} {bytes : ByteArray} {maxL nL n index : Nat} {ret : Option FieldType} {own : String} {host : String} {b : Nat} {As st0 : List Value} {lv : List (Nat × Value)} {T : u_T} {N : Nat} {fs : List Value}
    (hx : p.tables.exec = Jvm.exec) (hb : c.code = cc) (hml : c.maxLocals = nL) (hown : s.vm.findClass own = some m.cls) (hG : ∀ w ∈ gG, w.before args s = true) (hl : lv_has ls nL lv)
    (hM : Met l y (Cond.code y bytes maxL ret :: gG) rm (va_Pc As (PRE D tys H.size Wc)) (va_Ql post (AT D tys (va_A Wc H.size) w1) (va_A Wc H.size)) 0 0 (va_A Wc H.size)) (cw : va_CN R s args own index y host bytes maxL ret (Cond.code y bytes maxL ret :: gG) rm 0 0 n ∧ (Cond.static y).before args s = true ∧ True) (hK : va_K D vwCl tys s) (hP : va_P D vwCl ws H) (hD : va_D A ws) (hS : va_S A s.heap H locs) (hA : ∀ q : Nat, s.heap.size ≤ q → A q) (hN : NST s)
    (isC : List Nat) (hC0 : isC.filterMap (fun i => ws[i]?) = Wc) (hCl : Wc.length = isC.length) (hnC : va_nd isC = true) (hl1 : ∀ u, isC.length = (w1 u).length) (hW : ∀ u, setL ws isC (w1 u) = W' u)
    (hnn : As.length = n) (hst : st0 = As.reverse ++ rest) (hro : (rest.map fun v => v.category).sum ≤ 8) (hdg : decode cc pc = .ok (.invokestatic index, 3)) (hf : cells ≤ R.cells ∧ slots ≤ R.slots)
    (kk : ∀ (r : Int64) (u : S), post r u → ∀ (H1 : Heap) (locs1 : List Loc), va_P D vwCl (W' u) H1 → va_D A (W' u) → va_S A s.heap H1 locs1 → W p l e R s m args below meth c H1 locs1 cells slots Q (F0 m (pc + 3) ls (.long r :: rest))) : W p l e R s m args below meth c H locs cells slots Q (F0 m pc ls st0) := by
  have hC := pickAt isC Wc hC0 hCl
  have hF := va_free (wc := Wc) hD hS hA isC hC
  refine va_calll (va_runSN ⟨hx, hb, hml, hown, hG⟩ hM cw ⟨preB, preU hN hK hP hD hnC hC⟩ rfl hnn hl.1 hst (lv_room hro) hdg hf) hS (fun q _ h => hF q h) hF (fun r u t H1 locs1 ht hvm hw hB hz1 hk1 hS1 => ?_)
  obtain ⟨hP1, hK1, hD1⟩ := hB
  rw [ht] at hP1
  obtain ⟨hP2, hD2⟩ := backAt hP hD isC hC (hl1 u) hk1 hF hP1 hD1
  rw [hW u] at hP2 hD2
  exact kk r u hw H1 locs1 hP2 hD2 hS1
theorem kSNv {S : Type} {post : S → Prop} {w1 W' : S → va_W} {Wc : va_W} {rm : Room} {y : MethodName} {bytes : ByteArray} {maxL nL n index : Nat} {ret : Option FieldType} {own : String} {host : String} {b : Nat} {As st0 : List Value} {lv : List (Nat × Value)} {T : u_T} {N : Nat} {fs : List Value}
    (hx : p.tables.exec = Jvm.exec) (hb : c.code = cc) (hml : c.maxLocals = nL) (hown : s.vm.findClass own = some m.cls) (hG : ∀ w ∈ gG, w.before args s = true) (hl : lv_has ls nL lv)
    (hM : Met l y (Cond.code y bytes maxL ret :: gG) rm (va_Pc As (PRE D tys H.size Wc)) (va_Qv post (AT D tys (va_A Wc H.size) w1) (va_A Wc H.size)) 0 0 (va_A Wc H.size)) (cw : va_CN R s args own index y host bytes maxL ret (Cond.code y bytes maxL ret :: gG) rm 0 0 n ∧ (Cond.static y).before args s = true ∧ True) (hK : va_K D vwCl tys s) (hP : va_P D vwCl ws H) (hD : va_D A ws) (hS : va_S A s.heap H locs) (hA : ∀ q : Nat, s.heap.size ≤ q → A q) (hN : NST s)
    (isC : List Nat) (hC0 : isC.filterMap (fun i => ws[i]?) = Wc) (hCl : Wc.length = isC.length) (hnC : va_nd isC = true) (hl1 : ∀ u, isC.length = (w1 u).length) (hW : ∀ u, setL ws isC (w1 u) = W' u)
    (hnn : As.length = n) (hst : st0 = As.reverse ++ rest) (hro : (rest.map fun v => v.category).sum ≤ 8) (hdg : decode cc pc = .ok (.invokestatic index, 3)) (hf : cells ≤ R.cells ∧ slots ≤ R.slots)
    (kk : ∀ (u : S), post u → ∀ (H1 : Heap) (locs1 : List Loc), va_P D vwCl (W' u) H1 → va_D A (W' u) → va_S A s.heap H1 locs1 → W p l e R s m args below meth c H1 locs1 cells slots Q (F0 m (pc + 3) ls (rest))) : W p l e R s m args below meth c H locs cells slots Q (F0 m pc ls st0) := by
  have hC := pickAt isC Wc hC0 hCl
  have hF := va_free (wc := Wc) hD hS hA isC hC
  refine va_callv (va_runSN ⟨hx, hb, hml, hown, hG⟩ hM cw ⟨preB, preU hN hK hP hD hnC hC⟩ rfl hnn hl.1 hst (lv_room hro) hdg hf) hS (fun q _ h => hF q h) hF (fun u t H1 locs1 ht hvm hw hB hz1 hk1 hS1 => ?_)
  obtain ⟨hP1, hK1, hD1⟩ := hB
  rw [ht] at hP1
  obtain ⟨hP2, hD2⟩ := backAt hP hD isC hC (hl1 u) hk1 hF hP1 hD1
  rw [hW u] at hP2 hD2
  exact kk u hw H1 locs1 hP2 hD2 hS1
theorem kSNr {S : Type} {post : S → Prop} {w1 W' : S → va_W} {Wc : va_W} {rm : Room} {y : MethodName} {bytes : ByteArray} {maxL nL n index : Nat} {ret : Option FieldType} {own : String} {host : String} {ra : Nat} {b : Nat} {As st0 : List Value} {lv : List (Nat × Value)} {T : u_T} {N : Nat} {fs : List Value}
    (hx : p.tables.exec = Jvm.exec) (hb : c.code = cc) (hml : c.maxLocals = nL) (hown : s.vm.findClass own = some m.cls) (hG : ∀ w ∈ gG, w.before args s = true) (hl : lv_has ls nL lv)
    (hM : Met l y (Cond.code y bytes maxL ret :: gG) rm (va_Pc As (PRE D tys H.size Wc)) (va_Qr post (fun u a t => a = ra ∧ AT D tys (va_A Wc H.size) w1 u t) (va_A Wc H.size)) 0 0 (va_A Wc H.size)) (cw : va_CN R s args own index y host bytes maxL ret (Cond.code y bytes maxL ret :: gG) rm 0 0 n ∧ (Cond.static y).before args s = true ∧ True) (hK : va_K D vwCl tys s) (hP : va_P D vwCl ws H) (hD : va_D A ws) (hS : va_S A s.heap H locs) (hA : ∀ q : Nat, s.heap.size ≤ q → A q) (hN : NST s)
    (isC : List Nat) (hC0 : isC.filterMap (fun i => ws[i]?) = Wc) (hCl : Wc.length = isC.length) (hnC : va_nd isC = true) (hl1 : ∀ u, isC.length = (w1 u).length) (hW : ∀ u, setL ws isC (w1 u) = W' u)
    (hnn : As.length = n) (hst : st0 = As.reverse ++ rest) (hro : (rest.map fun v => v.category).sum ≤ 8) (hdg : decode cc pc = .ok (.invokestatic index, 3)) (hf : cells ≤ R.cells ∧ slots ≤ R.slots)
    (kk : ∀ (u : S), post u → ∀ (H1 : Heap) (locs1 : List Loc), va_P D vwCl (W' u) H1 → va_D A (W' u) → va_S A s.heap H1 locs1 → W p l e R s m args below meth c H1 locs1 cells slots Q (F0 m (pc + 3) ls (.ref ra :: rest))) : W p l e R s m args below meth c H locs cells slots Q (F0 m pc ls st0) := by
  have hC := pickAt isC Wc hC0 hCl
  have hF := va_free (wc := Wc) hD hS hA isC hC
  refine va_callr (va_runSN ⟨hx, hb, hml, hown, hG⟩ hM cw ⟨preB, preU hN hK hP hD hnC hC⟩ rfl hnn hl.1 hst (lv_room hro) hdg hf) hS (fun q _ h => hF q h) hF (fun u a9 t H1 locs1 ht hvm hw hB hz1 hk1 hS1 => ?_)
  obtain ⟨rfl, hP1, hK1, hD1⟩ := hB
  rw [ht] at hP1
  obtain ⟨hP2, hD2⟩ := backAt hP hD isC hC (hl1 u) hk1 hF hP1 hD1
  rw [hW u] at hP2 hD2
  exact kk u hw H1 locs1 hP2 hD2 hS1
/-- the callee's world is the caller's -/
theorem kFi {S : Type} {post : Int32 → S → Prop} {w1 : S → va_W} {rm : Room} {y : MethodName} {bytes : ByteArray} {maxL nL n index : Nat} {ret : Option FieldType} {own : String} {b : Nat} {As st0 : List Value} {lv : List (Nat × Value)} {T : u_T} {N : Nat} {fs : List Value}
    (hx : p.tables.exec = Jvm.exec) (hb : c.code = cc) (hml : c.maxLocals = nL) (hown : s.vm.findClass own = some m.cls) (hG : ∀ w ∈ gG, w.before args s = true) (hl : lv_has ls nL lv)
    (hM : Met l y (Cond.code y bytes maxL ret :: gG) rm (va_Pc (.ref b :: As) (PRE D tys H.size ws)) (va_Qi post (AT D tys (va_A ws H.size) w1) (va_A ws H.size)) 0 0 (va_A ws H.size)) (cw : CallW R s args own y.cls index y bytes maxL ret (Cond.code y bytes maxL ret :: gG) rm 0 0 n) (q0 ci : Nat) (hc : vwCl[ci]? = some (y.cls, T, N)) (he : ws[q0]? = some (b, .inr (ci, fs))) (hK : va_K D vwCl tys s) (hP : va_P D vwCl ws H) (hD : va_D A ws) (hS : va_S A s.heap H locs) (hA : ∀ q : Nat, s.heap.size ≤ q → A q) (hN : NST s)
    (hnn : As.length = n) (hst : st0 = As.reverse ++ .ref b :: rest) (hro : (rest.map fun v => v.category).sum ≤ 8) (hdg : decode cc pc = .ok (.invokevirtual index, 3)) (hf : cells ≤ R.cells ∧ slots ≤ R.slots)
    (kk : ∀ (r : Int32) (u : S), post r u → ∀ (H1 : Heap) (locs1 : List Loc), va_P D vwCl (w1 u) H1 → va_D A (w1 u) → va_S A s.heap H1 locs1 → W p l e R s m args below meth c H1 locs1 cells slots Q (F0 m (pc + 3) ls (.int r :: rest))) : W p l e R s m args below meth c H locs cells slots Q (F0 m pc ls st0) := by
  have hF : ∀ q, va_A ws H.size q → A q := fun q h => by
    rcases h with ⟨k, e, h⟩ | h
    · exact hD.2 k _ h
    · exact hA q (Nat.le_trans hS.1 h)
  refine va_calli (va_runV ⟨hx, hb, hml, hown, hG⟩ hM cw ⟨preB, va_recv hK hP hc he, fun U hU hW => ⟨rfl, by rw [hU], by rw [hU]; exact hP, va_K.moved hW.alike hK, hD.weaken (fun _ _ _ _ => trivial), NST.warm hW hN⟩⟩ rfl hnn hl.1 hst (lv_room hro) hdg hf) hS (fun q _ h => hF q h) hF (fun r u t H1 locs1 ht hvm hw hB hz1 hk1 hS1 => ?_)
  obtain ⟨hP1, hK1, hD1⟩ := hB
  rw [ht] at hP1
  exact kk r u hw H1 locs1 hP1 (hD1.weaken (fun k q _ h => hF q.1 h)) hS1
/-- the callee's world is the caller's -/
theorem kFl {S : Type} {post : Int64 → S → Prop} {w1 : S → va_W} {rm : Room} {y : MethodName} {bytes : ByteArray} {maxL nL n index : Nat} {ret : Option FieldType} {own : String} {b : Nat} {As st0 : List Value} {lv : List (Nat × Value)} {T : u_T} {N : Nat} {fs : List Value}
    (hx : p.tables.exec = Jvm.exec) (hb : c.code = cc) (hml : c.maxLocals = nL) (hown : s.vm.findClass own = some m.cls) (hG : ∀ w ∈ gG, w.before args s = true) (hl : lv_has ls nL lv)
    (hM : Met l y (Cond.code y bytes maxL ret :: gG) rm (va_Pc (.ref b :: As) (PRE D tys H.size ws)) (va_Ql post (AT D tys (va_A ws H.size) w1) (va_A ws H.size)) 0 0 (va_A ws H.size)) (cw : CallW R s args own y.cls index y bytes maxL ret (Cond.code y bytes maxL ret :: gG) rm 0 0 n) (q0 ci : Nat) (hc : vwCl[ci]? = some (y.cls, T, N)) (he : ws[q0]? = some (b, .inr (ci, fs))) (hK : va_K D vwCl tys s) (hP : va_P D vwCl ws H) (hD : va_D A ws) (hS : va_S A s.heap H locs) (hA : ∀ q : Nat, s.heap.size ≤ q → A q) (hN : NST s)
    (hnn : As.length = n) (hst : st0 = As.reverse ++ .ref b :: rest) (hro : (rest.map fun v => v.category).sum ≤ 8) (hdg : decode cc pc = .ok (.invokevirtual index, 3)) (hf : cells ≤ R.cells ∧ slots ≤ R.slots)
    (kk : ∀ (r : Int64) (u : S), post r u → ∀ (H1 : Heap) (locs1 : List Loc), va_P D vwCl (w1 u) H1 → va_D A (w1 u) → va_S A s.heap H1 locs1 → W p l e R s m args below meth c H1 locs1 cells slots Q (F0 m (pc + 3) ls (.long r :: rest))) : W p l e R s m args below meth c H locs cells slots Q (F0 m pc ls st0) := by
  have hF : ∀ q, va_A ws H.size q → A q := fun q h => by
    rcases h with ⟨k, e, h⟩ | h
    · exact hD.2 k _ h
    · exact hA q (Nat.le_trans hS.1 h)
  refine va_calll (va_runV ⟨hx, hb, hml, hown, hG⟩ hM cw ⟨preB, va_recv hK hP hc he, fun U hU hW => ⟨rfl, by rw [hU], by rw [hU]; exact hP, va_K.moved hW.alike hK, hD.weaken (fun _ _ _ _ => trivial), NST.warm hW hN⟩⟩ rfl hnn hl.1 hst (lv_room hro) hdg hf) hS (fun q _ h => hF q h) hF (fun r u t H1 locs1 ht hvm hw hB hz1 hk1 hS1 => ?_)
  obtain ⟨hP1, hK1, hD1⟩ := hB
  rw [ht] at hP1
  exact kk r u hw H1 locs1 hP1 (hD1.weaken (fun k q _ h => hF q.1 h)) hS1
/-- the callee's world is the caller's -/
theorem kFv {S : Type} {post : S → Prop} {w1 : S → va_W} {rm : Room} {y : MethodName} {bytes : ByteArray} {maxL nL n index : Nat} {ret : Option FieldType} {own : String} {b : Nat} {As st0 : List Value} {lv : List (Nat × Value)} {T : u_T} {N : Nat} {fs : List Value}
    (hx : p.tables.exec = Jvm.exec) (hb : c.code = cc) (hml : c.maxLocals = nL) (hown : s.vm.findClass own = some m.cls) (hG : ∀ w ∈ gG, w.before args s = true) (hl : lv_has ls nL lv)
    (hM : Met l y (Cond.code y bytes maxL ret :: gG) rm (va_Pc (.ref b :: As) (PRE D tys H.size ws)) (va_Qv post (AT D tys (va_A ws H.size) w1) (va_A ws H.size)) 0 0 (va_A ws H.size)) (cw : CallW R s args own y.cls index y bytes maxL ret (Cond.code y bytes maxL ret :: gG) rm 0 0 n) (q0 ci : Nat) (hc : vwCl[ci]? = some (y.cls, T, N)) (he : ws[q0]? = some (b, .inr (ci, fs))) (hK : va_K D vwCl tys s) (hP : va_P D vwCl ws H) (hD : va_D A ws) (hS : va_S A s.heap H locs) (hA : ∀ q : Nat, s.heap.size ≤ q → A q) (hN : NST s)
    (hnn : As.length = n) (hst : st0 = As.reverse ++ .ref b :: rest) (hro : (rest.map fun v => v.category).sum ≤ 8) (hdg : decode cc pc = .ok (.invokevirtual index, 3)) (hf : cells ≤ R.cells ∧ slots ≤ R.slots)
    (kk : ∀ (u : S), post u → ∀ (H1 : Heap) (locs1 : List Loc), va_P D vwCl (w1 u) H1 → va_D A (w1 u) → va_S A s.heap H1 locs1 → W p l e R s m args below meth c H1 locs1 cells slots Q (F0 m (pc + 3) ls (rest))) : W p l e R s m args below meth c H locs cells slots Q (F0 m pc ls st0) := by
  have hF : ∀ q, va_A ws H.size q → A q := fun q h => by
    rcases h with ⟨k, e, h⟩ | h
    · exact hD.2 k _ h
    · exact hA q (Nat.le_trans hS.1 h)
  refine va_callv (va_runV ⟨hx, hb, hml, hown, hG⟩ hM cw ⟨preB, va_recv hK hP hc he, fun U hU hW => ⟨rfl, by rw [hU], by rw [hU]; exact hP, va_K.moved hW.alike hK, hD.weaken (fun _ _ _ _ => trivial), NST.warm hW hN⟩⟩ rfl hnn hl.1 hst (lv_room hro) hdg hf) hS (fun q _ h => hF q h) hF (fun u t H1 locs1 ht hvm hw hB hz1 hk1 hS1 => ?_)
  obtain ⟨hP1, hK1, hD1⟩ := hB
  rw [ht] at hP1
  exact kk u hw H1 locs1 hP1 (hD1.weaken (fun k q _ h => hF q.1 h)) hS1
/-- the callee's world is the caller's -/
theorem kFr {S : Type} {post : S → Prop} {w1 : S → va_W} {rm : Room} {y : MethodName} {bytes : ByteArray} {maxL nL n index : Nat} {ret : Option FieldType} {own : String} {ra : Nat} {b : Nat} {As st0 : List Value} {lv : List (Nat × Value)} {T : u_T} {N : Nat} {fs : List Value}
    (hx : p.tables.exec = Jvm.exec) (hb : c.code = cc) (hml : c.maxLocals = nL) (hown : s.vm.findClass own = some m.cls) (hG : ∀ w ∈ gG, w.before args s = true) (hl : lv_has ls nL lv)
    (hM : Met l y (Cond.code y bytes maxL ret :: gG) rm (va_Pc (.ref b :: As) (PRE D tys H.size ws)) (va_Qr post (fun u a t => a = ra ∧ AT D tys (va_A ws H.size) w1 u t) (va_A ws H.size)) 0 0 (va_A ws H.size)) (cw : CallW R s args own y.cls index y bytes maxL ret (Cond.code y bytes maxL ret :: gG) rm 0 0 n) (q0 ci : Nat) (hc : vwCl[ci]? = some (y.cls, T, N)) (he : ws[q0]? = some (b, .inr (ci, fs))) (hK : va_K D vwCl tys s) (hP : va_P D vwCl ws H) (hD : va_D A ws) (hS : va_S A s.heap H locs) (hA : ∀ q : Nat, s.heap.size ≤ q → A q) (hN : NST s)
    (hnn : As.length = n) (hst : st0 = As.reverse ++ .ref b :: rest) (hro : (rest.map fun v => v.category).sum ≤ 8) (hdg : decode cc pc = .ok (.invokevirtual index, 3)) (hf : cells ≤ R.cells ∧ slots ≤ R.slots)
    (kk : ∀ (u : S), post u → ∀ (H1 : Heap) (locs1 : List Loc), va_P D vwCl (w1 u) H1 → va_D A (w1 u) → va_S A s.heap H1 locs1 → W p l e R s m args below meth c H1 locs1 cells slots Q (F0 m (pc + 3) ls (.ref ra :: rest))) : W p l e R s m args below meth c H locs cells slots Q (F0 m pc ls st0) := by
  have hF : ∀ q, va_A ws H.size q → A q := fun q h => by
    rcases h with ⟨k, e, h⟩ | h
    · exact hD.2 k _ h
    · exact hA q (Nat.le_trans hS.1 h)
  refine va_callr (va_runV ⟨hx, hb, hml, hown, hG⟩ hM cw ⟨preB, va_recv hK hP hc he, fun U hU hW => ⟨rfl, by rw [hU], by rw [hU]; exact hP, va_K.moved hW.alike hK, hD.weaken (fun _ _ _ _ => trivial), NST.warm hW hN⟩⟩ rfl hnn hl.1 hst (lv_room hro) hdg hf) hS (fun q _ h => hF q h) hF (fun u a9 t H1 locs1 ht hvm hw hB hz1 hk1 hS1 => ?_)
  obtain ⟨rfl, hP1, hK1, hD1⟩ := hB
  rw [ht] at hP1
  exact kk u hw H1 locs1 hP1 (hD1.weaken (fun k q _ h => hF q.1 h)) hS1
theorem k0Si {post : Int32 → Unit → Prop} {rm : Room} {y : MethodName} {bytes : ByteArray} {maxL nL n index : Nat} {ret : Option FieldType} {own : String} {As st0 : List Value} {lv : List (Nat × Value)}
    (hx : p.tables.exec = Jvm.exec) (hb : c.code = cc) (hml : c.maxLocals = nL) (hown : s.vm.findClass own = some m.cls) (hG : ∀ w ∈ gG, w.before args s = true) (hl : lv_has ls nL lv)
    (hM : Met l y (Cond.code y bytes maxL ret :: gG) rm (va_Pc As (PRE D tys H.size [])) (va_Qi post (AT D tys (va_A [] H.size) (fun _ : Unit => [])) (va_A [] H.size)) 0 0 (va_A [] H.size)) (cw : CallB R s args own index y bytes maxL ret (Cond.code y bytes maxL ret :: gG) rm 0 0 n ∧ (Cond.static y).before args s = true) (hK : va_K D vwCl tys s) (hP : va_P D vwCl ws H) (hD : va_D A ws) (hS : va_S A s.heap H locs) (hA : ∀ q : Nat, s.heap.size ≤ q → A q) (hN : NST s)
    (hnn : As.length = n) (hst : st0 = As.reverse ++ rest) (hro : (rest.map fun v => v.category).sum ≤ 8) (hdg : decode cc pc = .ok (.invokestatic index, 3)) (hf : cells ≤ R.cells ∧ slots ≤ R.slots)
    (kk : ∀ (r : Int32), post r () → ∀ (H1 : Heap) (locs1 : List Loc), va_P D vwCl ws H1 → va_D A ws → va_S A s.heap H1 locs1 → W p l e R s m args below meth c H1 locs1 cells slots Q (F0 m (pc + 3) ls (.int r :: rest))) : W p l e R s m args below meth c H locs cells slots Q (F0 m pc ls st0) := by
  have hF := va_free (wc := []) hD hS hA [] rfl
  refine va_calli (va_runS ⟨hx, hb, hml, hown, hG⟩ hM cw ⟨preB, preU (isC := []) hN hK hP hD rfl rfl⟩ rfl hnn hl.1 hst (lv_room hro) hdg hf) hS (fun q _ h => hF q h) hF (fun r u t H1 locs1 ht hvm hw hB hz1 hk1 hS1 => ?_)
  refine kk r hw H1 locs1 (hP.kept (fun k q hk => hk1 q.1 (hP k q hk).lt ?_)) hD hS1
  intro h
  rcases h with ⟨k2, e2, h2⟩ | h2
  · simp at h2
  · have := (hP k q hk).lt; omega
theorem k0Sl {post : Int64 → Unit → Prop} {rm : Room} {y : MethodName} {bytes : ByteArray} {maxL nL n index : Nat} {ret : Option FieldType} {own : String} {As st0 : List Value} {lv : List (Nat × Value)}
    (hx : p.tables.exec = Jvm.exec) (hb : c.code = cc) (hml : c.maxLocals = nL) (hown : s.vm.findClass own = some m.cls) (hG : ∀ w ∈ gG, w.before args s = true) (hl : lv_has ls nL lv)
    (hM : Met l y (Cond.code y bytes maxL ret :: gG) rm (va_Pc As (PRE D tys H.size [])) (va_Ql post (AT D tys (va_A [] H.size) (fun _ : Unit => [])) (va_A [] H.size)) 0 0 (va_A [] H.size)) (cw : CallB R s args own index y bytes maxL ret (Cond.code y bytes maxL ret :: gG) rm 0 0 n ∧ (Cond.static y).before args s = true) (hK : va_K D vwCl tys s) (hP : va_P D vwCl ws H) (hD : va_D A ws) (hS : va_S A s.heap H locs) (hA : ∀ q : Nat, s.heap.size ≤ q → A q) (hN : NST s)
    (hnn : As.length = n) (hst : st0 = As.reverse ++ rest) (hro : (rest.map fun v => v.category).sum ≤ 8) (hdg : decode cc pc = .ok (.invokestatic index, 3)) (hf : cells ≤ R.cells ∧ slots ≤ R.slots)
    (kk : ∀ (r : Int64), post r () → ∀ (H1 : Heap) (locs1 : List Loc), va_P D vwCl ws H1 → va_D A ws → va_S A s.heap H1 locs1 → W p l e R s m args below meth c H1 locs1 cells slots Q (F0 m (pc + 3) ls (.long r :: rest))) : W p l e R s m args below meth c H locs cells slots Q (F0 m pc ls st0) := by
  have hF := va_free (wc := []) hD hS hA [] rfl
  refine va_calll (va_runS ⟨hx, hb, hml, hown, hG⟩ hM cw ⟨preB, preU (isC := []) hN hK hP hD rfl rfl⟩ rfl hnn hl.1 hst (lv_room hro) hdg hf) hS (fun q _ h => hF q h) hF (fun r u t H1 locs1 ht hvm hw hB hz1 hk1 hS1 => ?_)
  refine kk r hw H1 locs1 (hP.kept (fun k q hk => hk1 q.1 (hP k q hk).lt ?_)) hD hS1
  intro h
  rcases h with ⟨k2, e2, h2⟩ | h2
  · simp at h2
  · have := (hP k q hk).lt; omega
theorem k0SNi {post : Int32 → Unit → Prop} {rm : Room} {y : MethodName} {bytes : ByteArray} {maxL nL n index : Nat} {ret : Option FieldType} {own : String} {host : String} {As st0 : List Value} {lv : List (Nat × Value)}
    (hx : p.tables.exec = Jvm.exec) (hb : c.code = cc) (hml : c.maxLocals = nL) (hown : s.vm.findClass own = some m.cls) (hG : ∀ w ∈ gG, w.before args s = true) (hl : lv_has ls nL lv)
    (hM : Met l y (Cond.code y bytes maxL ret :: gG) rm (va_Pc As (PRE D tys H.size [])) (va_Qi post (AT D tys (va_A [] H.size) (fun _ : Unit => [])) (va_A [] H.size)) 0 0 (va_A [] H.size)) (cw : va_CN R s args own index y host bytes maxL ret (Cond.code y bytes maxL ret :: gG) rm 0 0 n ∧ (Cond.static y).before args s = true ∧ True) (hK : va_K D vwCl tys s) (hP : va_P D vwCl ws H) (hD : va_D A ws) (hS : va_S A s.heap H locs) (hA : ∀ q : Nat, s.heap.size ≤ q → A q) (hN : NST s)
    (hnn : As.length = n) (hst : st0 = As.reverse ++ rest) (hro : (rest.map fun v => v.category).sum ≤ 8) (hdg : decode cc pc = .ok (.invokestatic index, 3)) (hf : cells ≤ R.cells ∧ slots ≤ R.slots)
    (kk : ∀ (r : Int32), post r () → ∀ (H1 : Heap) (locs1 : List Loc), va_P D vwCl ws H1 → va_D A ws → va_S A s.heap H1 locs1 → W p l e R s m args below meth c H1 locs1 cells slots Q (F0 m (pc + 3) ls (.int r :: rest))) : W p l e R s m args below meth c H locs cells slots Q (F0 m pc ls st0) := by
  have hF := va_free (wc := []) hD hS hA [] rfl
  refine va_calli (va_runSN ⟨hx, hb, hml, hown, hG⟩ hM cw ⟨preB, preU (isC := []) hN hK hP hD rfl rfl⟩ rfl hnn hl.1 hst (lv_room hro) hdg hf) hS (fun q _ h => hF q h) hF (fun r u t H1 locs1 ht hvm hw hB hz1 hk1 hS1 => ?_)
  refine kk r hw H1 locs1 (hP.kept (fun k q hk => hk1 q.1 (hP k q hk).lt ?_)) hD hS1
  intro h
  rcases h with ⟨k2, e2, h2⟩ | h2
  · simp at h2
  · have := (hP k q hk).lt; omega
theorem k0SNl {post : Int64 → Unit → Prop} {rm : Room} {y : MethodName} {bytes : ByteArray} {maxL nL n index : Nat} {ret : Option FieldType} {own : String} {host : String} {As st0 : List Value} {lv : List (Nat × Value)}
    (hx : p.tables.exec = Jvm.exec) (hb : c.code = cc) (hml : c.maxLocals = nL) (hown : s.vm.findClass own = some m.cls) (hG : ∀ w ∈ gG, w.before args s = true) (hl : lv_has ls nL lv)
    (hM : Met l y (Cond.code y bytes maxL ret :: gG) rm (va_Pc As (PRE D tys H.size [])) (va_Ql post (AT D tys (va_A [] H.size) (fun _ : Unit => [])) (va_A [] H.size)) 0 0 (va_A [] H.size)) (cw : va_CN R s args own index y host bytes maxL ret (Cond.code y bytes maxL ret :: gG) rm 0 0 n ∧ (Cond.static y).before args s = true ∧ True) (hK : va_K D vwCl tys s) (hP : va_P D vwCl ws H) (hD : va_D A ws) (hS : va_S A s.heap H locs) (hA : ∀ q : Nat, s.heap.size ≤ q → A q) (hN : NST s)
    (hnn : As.length = n) (hst : st0 = As.reverse ++ rest) (hro : (rest.map fun v => v.category).sum ≤ 8) (hdg : decode cc pc = .ok (.invokestatic index, 3)) (hf : cells ≤ R.cells ∧ slots ≤ R.slots)
    (kk : ∀ (r : Int64), post r () → ∀ (H1 : Heap) (locs1 : List Loc), va_P D vwCl ws H1 → va_D A ws → va_S A s.heap H1 locs1 → W p l e R s m args below meth c H1 locs1 cells slots Q (F0 m (pc + 3) ls (.long r :: rest))) : W p l e R s m args below meth c H locs cells slots Q (F0 m pc ls st0) := by
  have hF := va_free (wc := []) hD hS hA [] rfl
  refine va_calll (va_runSN ⟨hx, hb, hml, hown, hG⟩ hM cw ⟨preB, preU (isC := []) hN hK hP hD rfl rfl⟩ rfl hnn hl.1 hst (lv_room hro) hdg hf) hS (fun q _ h => hF q h) hF (fun r u t H1 locs1 ht hvm hw hB hz1 hk1 hS1 => ?_)
  refine kk r hw H1 locs1 (hP.kept (fun k q hk => hk1 q.1 (hP k q hk).lt ?_)) hD hS1
  intro h
  rcases h with ⟨k2, e2, h2⟩ | h2
  · simp at h2
  · have := (hP k q hk).lt; omega
end RW
theorem inX0 : ∀ w ∈ u_ws RX0 TX0 4, w ∈ gG := by decide +kernel
theorem inX1 : ∀ w ∈ u_ws RX1 TX1 11, w ∈ gG := by decide +kernel
theorem inX2 : ∀ w ∈ u_ws RX2 TX2 3, w ∈ gG := by decide +kernel
theorem inX3 : ∀ w ∈ u_ws RX3 TX3 4, w ∈ gG := by decide +kernel
theorem inX4 : ∀ w ∈ u_ws RX4 TX4 15, w ∈ gG := by decide +kernel
theorem inX5 : ∀ w ∈ u_ws RX5 TX5 37, w ∈ gG := by decide +kernel
theorem nl0 {s : State} (hN : NST s) : va_Nw (.methodLinkNest RX4 9 yX3_init "RingProcessor") s := hN (RX4, 9, yX3_init, "RingProcessor") (List.mem_of_getElem? (i := 0) rfl)
theorem nl1 {s : State} (hN : NST s) : va_Nw (.methodLinkNest RX3 17 yX0_init "RingProcessor") s := hN (RX3, 17, yX0_init, "RingProcessor") (List.mem_of_getElem? (i := 1) rfl)
theorem nl2 {s : State} (hN : NST s) : va_Nw (.methodLinkNest RX3 27 yX1_init "RingProcessor") s := hN (RX3, 27, yX1_init, "RingProcessor") (List.mem_of_getElem? (i := 2) rfl)
theorem nl3 {s : State} (hN : NST s) : va_Nw (.methodLinkNest RX4 22 yX2_init "RingProcessor") s := hN (RX4, 22, yX2_init, "RingProcessor") (List.mem_of_getElem? (i := 3) rfl)
theorem nl4 {s : State} (hN : NST s) : va_Nw (.methodLinkNest RX2 21 yX4_field "RingProcessor") s := hN (RX2, 21, yX4_field, "RingProcessor") (List.mem_of_getElem? (i := 4) rfl)
theorem nl5 {s : State} (hN : NST s) : va_Nw (.methodLinkNest RX3 68 yX4_sum "RingProcessor") s := hN (RX3, 68, yX4_sum, "RingProcessor") (List.mem_of_getElem? (i := 5) rfl)
theorem nl6 {s : State} (hN : NST s) : va_Nw (.methodLinkNest RX3 48 yX4_faultOf "RingProcessor") s := hN (RX3, 48, yX4_faultOf, "RingProcessor") (List.mem_of_getElem? (i := 6) rfl)
