/-! rows for constructors: what is made, by names -/
section CT
variable {p : Program} {l : Launch} {e : Env} {R : Room} {s : State} {m : MethodId} {args : Array Value} {below : List Frame} {meth : Method} {c : Code} {H : Heap} {locs : List Loc} {cells slots : Nat} {Q : State → Prop}
variable {cc : ByteArray} {pc : Nat} {ls : Array Slot} {rest : List Value} {D : va_G} {A : Nat → Prop} {tys : List (ClassId × FieldType)} {ws : va_W}
theorem na {cA : ClassId} {H0 : Heap} {W' : Nat → va_W} (hx : p.tables.exec = Jvm.exec) (hb : c.code = cc) {atype : ArrayType} (harr : (Cond.arrayClass (newarray.typeOf atype)).before args s = true) {ty : FieldType} (hty : newarray.typeOf atype = ty) (hK : va_K D vwCl tys s) (hP : va_P D vwCl ws H) (hD : va_D A ws) (hS : va_S A H0 H locs) (hA : ∀ q, H0.size ≤ q → A q)
    (t0 : Nat) (ht : tys[t0]? = some (cA, ty)) (hp : ty = .int ∨ ty = .long) {n : Int32} {N' : Nat} {a0 : vp_A} (ha : ∀ cA : ClassId, vp_cell cA a0 = arrV cA N' (fun _ => defaultValue ty)) (hn : ¬ n < 0) (hN : n.toNatClampNeg = N') (hbytes : N' * componentBytes ty ≤ 536870912) (hcells : cells + 1 ≤ R.cells) (hslots : slots + N' ≤ R.slots) (hdg : decode cc pc = .ok (.newarray atype, 2)) (hW' : ∀ q, ws ++ [(q, .inl (cA, a0))] = W' q)
    (kk : ∀ (q : Nat) (H1 : Heap), va_P D vwCl (W' q) H1 → va_D A (W' q) → va_S A H0 H1 locs → W p l e R s m args below meth c H1 locs (cells + 1) (slots + N') Q (F0 m (pc + 2) ls (.ref q :: rest))) : W p l e R s m args below meth c H locs cells slots Q (F0 m pc ls (.int n :: rest)) :=
  va_newa hx hb harr hty hK hP hD hS hA ha hn hN hbytes hcells hslots hdg (fun q cB H1 hK' hP' hD' hS' => by
    have e : cB = cA := by
      have h1 := (hK'.2 tys.length (cB, ty) (by simp)).2
      have h2 := (hK.2 t0 (cA, ty) ht).2
      rcases hp with rfl | rfl
      · exact Option.some.inj (Eq.trans (Eq.symm h1) h2)
      · exact Option.some.inj (Eq.trans (Eq.symm h1) h2)
    subst e
    rw [hW' q] at hP' hD'
    exact kk q H1 hP' hD' hS')
theorem nq {cA : ClassId} {H0 : Heap} {W' : Nat → va_W} (hx : p.tables.exec = Jvm.exec) (hb : c.code = cc) {own C : String} {index : Nat} (hown : s.vm.findClass own = some m.cls) (hclink : (Cond.classLink own index C).before args s = true) (hover : va_AO C s) (hK : va_K D vwCl tys s) (hP : va_P D vwCl ws H) (hD : va_D A ws) (hS : va_S A H0 H locs) (hA : ∀ q, H0.size ≤ q → A q)
    (t0 : Nat) (ht : tys[t0]? = some (cA, .object C)) {n : Int32} {N' : Nat} (hn : ¬ n < 0) (hN : n.toNatClampNeg = N') (hbytes : N' * 4 ≤ 536870912) (hcells : cells + 1 ≤ R.cells) (hslots : slots + N' ≤ R.slots) (hdg : decode cc pc = .ok (.anewarray index, 3)) (hW' : ∀ q, ws ++ [(q, .inl (cA, N', .inr (.inr (.inr (.inr (fun _ => none))))))] = W' q)
    (kk : ∀ (q : Nat) (H1 : Heap), va_P D vwCl (W' q) H1 → va_D A (W' q) → va_S A H0 H1 locs → W p l e R s m args below meth c H1 locs (cells + 1) (slots + N') Q (F0 m (pc + 3) ls (.ref q :: rest))) : W p l e R s m args below meth c H locs cells slots Q (F0 m pc ls (.int n :: rest)) :=
  va_newq hx hb hown hclink hover hK hP hD hS hA hn hN hbytes hcells hslots hdg (fun q cB H1 hK' hP' hD' hS' => by
    have e : cB = cA := by
      obtain ⟨k1, c1, a1, a2, a3, a4⟩ := (hK'.2 tys.length (cB, .object C) (by simp)).2
      obtain ⟨k2, c2, b1, b2, b3, b4⟩ := (hK.2 t0 (cA, .object C) ht).2
      exact Option.some.inj (a4.symm.trans b4)
    subst e
    rw [hW' q] at hP' hD'
    exact kk q H1 hP' hD' hS')
theorem pF {a : Nat} {H0 : Heap} {W' : va_W} (hx : p.tables.exec = Jvm.exec) (hb : c.code = cc) {own ref C : String} {T : u_T} {N ci index : Nat} (hts : ∀ w ∈ gG, w.before args s = true) (hin : ∀ w ∈ u_ws C T N, w ∈ gG) (ty0 : Nat → FieldType) (hty : ∀ k, k < N → parseFieldDescriptor (T k).2.2.1 = some (ty0 k)) (hnm : ∀ a, a < N → ∀ b, b < N → a ≠ b → (T a).2.1 ≠ (T b).2.1) (hown : s.vm.findClass own = some m.cls)
    (hK : va_K D vwCl tys s) (hP : va_P D vwCl ws H) (hD : va_D A ws) (hS0 : va_S A H0 H locs) (q0 : Nat) {fs : List Value} (he : ws[q0]? = some (a, .inr (ci, fs))) (hc : vwCl[ci]? = some (C, T, N)) (k : Nat) (hk : k < N) (hlink : (Cond.fieldLink own index ref (T k).2.1 (T k).2.2.1).before args s = true) (hsame : ∀ x, s.fieldFound? (T k).1 (T k).2.1 (T k).2.2.1 = some x → s.fieldFound? ref (T k).2.1 (T k).2.2.1 = some x) (hfin : (T k).2.2.2 = true) (hin2 : meth.name = "<init>") (hdecl : (T k).1 = own)
    {ty : FieldType} {v : Value} (hd : parseFieldDescriptor (T k).2.2.1 = some ty) (hn : narrow ty v = v) (hfit : fits ty v = true) (hl : k < fs.length) (hdg : decode cc pc = .ok (.putfield index, 3)) (hW' : ws.set q0 (a, .inr (ci, fs.set k v)) = W')
    (kk : ∀ (H1 : Heap) (locs1 : List Loc), va_P D vwCl W' H1 → va_D A W' → va_S A H0 H1 locs1 → W p l e R s m args below meth c H1 locs1 cells slots Q (F0 m (pc + 3) ls rest)) : W p l e R s m args below meth c H locs cells slots Q (F0 m pc ls (v :: .ref a :: rest)) := by
  subst hW'
  exact va_putF hx hb hts hin ty0 hty hnm hown hK hP hD hS0 q0 he hc k hk hlink hsame hfin hin2 hdecl hd hn hfit hl hdg kk
theorem nw {H0 : Heap} {W' : Nat → va_W} (hx : p.tables.exec = Jvm.exec) (hb : c.code = cc) {own C : String} {T : u_T} {N ci index : Nat} (hts : ∀ w ∈ gG, w.before args s = true) (hin : ∀ w ∈ u_ws C T N, w ∈ gG) (ty : Nat → FieldType) (hty : ∀ k, k < N → parseFieldDescriptor (T k).2.2.1 = some (ty k)) (hown : s.vm.findClass own = some m.cls) (hcl : (Cond.classLink own index C).before args s = true) (hinst : (Cond.instantiable C N).before args s = true) (hini : (Cond.initialized C).before args s = true)
    (hK : va_K D vwCl tys s) (hP : va_P D vwCl ws H) (hD : va_D A ws) (hS : va_S A H0 H locs) (hA : ∀ q, H0.size ≤ q → A q) (hc : vwCl[ci]? = some (C, T, N)) {fs : List Value} (hfs : ∀ j, j < N → defaultValue (ty j) = vp_V fs j) (hcells : cells + 1 ≤ R.cells) (hslots : slots + N ≤ R.slots) (hdg : decode cc pc = .ok (.new index, 3)) (hW' : ∀ q, ws ++ [(q, .inr (ci, fs))] = W' q)
    (kk : ∀ (q : Nat) (H1 : Heap), va_P D vwCl (W' q) H1 → va_D A (W' q) → va_S A H0 H1 locs → W p l e R s m args below meth c H1 locs (cells + 1) (slots + N) Q (F0 m (pc + 3) ls (.ref q :: rest))) : W p l e R s m args below meth c H locs cells slots Q (F0 m pc ls rest) :=
  va_new hx hb hts hin ty hty hown hcl hinst hini hK hP hD hS hA hc hfs hcells hslots hdg (fun q H1 hP' hD' hS' => by
    rw [hW' q] at hP' hD'
    exact kk q H1 hP' hD' hS')
theorem sq {a : Nat} {H0 : Heap} {W' : va_W} (hx : p.tables.exec = Jvm.exec) (hb : c.code = cc) (hK : va_K D vwCl tys s) (hP : va_P D vwCl ws H) (hD : va_D A ws) (hS : va_S A H0 H locs) (q0 t0 qk ci : Nat) {cA : ClassId} {r : vw_C} {n v : Nat} {vs : List Value} {f : Nat → Option Nat} (ha : ws[q0]? = some (a, .inl (cA, n, .inr (.inr (.inr (.inr f)))))) (ht : tys[t0]? = some (cA, .object r.1)) (hv : ws[qk]? = some (v, .inr (ci, vs))) (hc : vwCl[ci]? = some r) {i : Int32} {j : Nat} (hin : vp_in i n) (hj : i.toNatClampNeg = j) (hdg : decode cc pc = .ok (.aastore, 1))
    (hW' : ws.set q0 (a, .inl (cA, n, .inr (.inr (.inr (.inr (va_up f j (some v))))))) = W')
    (kk : ∀ (H1 : Heap) (locs1 : List Loc), va_P D vwCl W' H1 → va_D A W' → va_S A H0 H1 locs1 → W p l e R s m args below meth c H1 locs1 cells slots Q (F0 m (pc + 1) ls rest)) : W p l e R s m args below meth c H locs cells slots Q (F0 m pc ls (.ref v :: .int i :: .ref a :: rest)) := by
  subst hj; subst hW'
  exact va_astq hx hb hK hP hD hS q0 t0 qk ci ha ht hv hc hin hdg kk
/-- a constructor across the nest: its cells are the callee's, what it makes comes behind the rest -/
theorem kIN {S : Type} {post : S → Prop} {w1 W' : S → va_W} {Wc : va_W} {rm : Room} {y : MethodName} {bytes : ByteArray} {maxL nL index mc ms : Nat} {own host : String} {b : Nat} {st0 : List Value} {lv : List (Nat × Value)}
    (hx : p.tables.exec = Jvm.exec) (hb : c.code = cc) (hml : c.maxLocals = nL) (hown : s.vm.findClass own = some m.cls) (hG : ∀ w ∈ gG, w.before args s = true) (hl : lv_has ls nL lv)
    (hM : Met l y (Cond.code y bytes maxL none :: gG) rm (va_Pc [.ref b] (PRE D tys H.size Wc)) (va_Qv post (AT D tys (va_A Wc H.size) w1) (va_A Wc H.size)) mc ms (va_A Wc H.size)) (cw : va_CN R s args own index y host bytes maxL none (Cond.code y bytes maxL none :: gG) rm mc ms 0 ∧ y.name = "<init>" ∧ (Cond.instanceMethod y).before args s = true) (hK : va_K D vwCl tys s) (hP : va_P D vwCl ws H) (hD : va_D A ws) (hS : va_S A s.heap H locs) (hA : ∀ q : Nat, s.heap.size ≤ q → A q) (hN : NST s)
    (isC isR : List Nat) (hC0 : isC.filterMap (fun i => ws[i]?) = Wc) (hCl : Wc.length = isC.length) (hnC : va_nd isC = true) (hRl : (isR.filterMap (fun i => ws[i]?)).length = isR.length) (hnR : va_nd isR = true) (hdis : ∀ i ∈ isR, i ∉ isC) (hW : ∀ u, isR.filterMap (fun i => ws[i]?) ++ w1 u = W' u)
    (hst : st0 = .ref b :: rest) (hro : (rest.map fun v => v.category).sum ≤ 8) (hdg : decode cc pc = .ok (.invokespecial index, 3)) (hf : cells + mc ≤ R.cells ∧ slots + ms ≤ R.slots)
    (kk : ∀ (u : S), post u → ∀ (H1 : Heap) (locs1 : List Loc), va_P D vwCl (W' u) H1 → va_D A (W' u) → va_S A s.heap H1 locs1 → W p l e R s m args below meth c H1 locs1 (cells + mc) (slots + ms) Q (F0 m (pc + 3) ls rest)) : W p l e R s m args below meth c H locs cells slots Q (F0 m pc ls st0) := by
  have hC := pickAt isC Wc hC0 hCl
  have hR := pickAt isR _ rfl hRl
  have hF := va_free (wc := Wc) hD hS hA isC hC
  refine va_callv (va_runIN (As := []) ⟨hx, hb, hml, hown, hG⟩ hM cw ⟨preB, preU hN hK hP hD hnC hC⟩ rfl rfl hl.1 hst (lv_room hro) hdg hf) hS (fun q _ h => hF q h) hF (fun u t H1 locs1 ht hvm hw hB hz1 hk1 hS1 => ?_)
  obtain ⟨hP1, hK1, hD1⟩ := hB
  rw [ht] at hP1
  obtain ⟨hP2, hD2⟩ := va_join hP hD isC isR hC hR hnR hdis hk1 hF hP1 hD1
  rw [hW u] at hP2 hD2
  exact kk u hw H1 locs1 hP2 hD2 hS1
end CT
/-- a contract's start with one thing more that is known of the state -/
theorem mo2 {l : Launch} {y : MethodName} {cc : ByteArray} {maxL : Nat} {ret : Option FieldType} {rm : Room} {av : List Value} {D : va_G} {tys : List (ClassId × FieldType)} {Wc : va_W} {sz mc ms : Nat} {QA : (Nat → Prop) → Array Value → State → Outcome → State → Prop} {Z : State → Prop}
    (hy : plainName y.cls = true) (hlen : (lg_sl av).length ≤ maxL)
    (body : ∀ (p : Program) (e : Env) (s : State) (m : MethodId) (below : List Frame) (meth : Method) (c : Code) (A : Nat → Prop) (ls : Array Slot) (H : Heap), p.tables.exec = Jvm.exec → c.code = cc → meth.sig.returnType = ret → c.maxLocals = maxL → s.vm.findClass y.cls = some m.cls → (∀ w ∈ gG, w.before av.toArray s = true) → meth.locks = false → meth.name = y.name →
      (∀ q : Nat, s.heap.size ≤ q → A q) → va_S A s.heap H [] → va_P D vwCl Wc H → va_K D vwCl tys s → va_D A Wc → lv_has ls maxL (lv_args 0 av) → NST s → Z s → W p l e rm s m av.toArray below meth c H [] 0 0 (MQ below (QA A) av.toArray s mc ms A) (F0 m 0 ls [])) :
    Met l y (Cond.code y cc maxL ret :: gG) rm (va_Pc av (fun U => PRE D tys sz Wc U ∧ Z U)) (QA (va_A Wc sz)) mc ms (va_A Wc sz) := by
  refine Met.ofW (cc := cc) (maxL := maxL) (ret := ret) hy rfl ?_
  intro p e s m args below meth c s₁ B hml hv
  obtain ⟨rfl, ⟨hsz, hP, hK, hD0, hN⟩, hZ⟩ := hv
  have hts := atoms_spec (ws := Cond.code y cc maxL ret :: gG) B.pre
  subst hsz
  have hl := lv_entry av (n := maxL) hlen
  rw [lg_entry_eq]
  exact body p e s m below meth c (va_A Wc s.heap.size) _ s.heap B.exec B.bytes B.returns hml (findClass_of_methodNamed B.named) (fun w h => hts w (List.mem_cons_of_mem _ h)) B.notSynchronized (name_of_methodNamed B.named B.method).1 (fun q h => Or.inr h) va_S.rf hP hK hD0.self hl hN hZ
def zC : TC := ((fun _ => 0), (fun _ => 0), (fun _ => 0), 0)
def zD : TD := (0, 0, 0, 0, 0, 0, 0, 0, 0, 0, 0)
def zS : TS := ((fun _ => 0), zC, zC, zD)
def zP : TP := (0, 0, 0)
def zR : TR := ((0, 0), (0, 0, 0, 0, 0, 0, 0), (fun _ => 0), (zP, zP, zP, zP), zP, zP, zP, zS)
def zM : TM := (0, (fun _ => 0), (0, (fun _ => 0), (fun _ => 0), (fun _ => 0)), (0, (fun _ => 0), (fun _ => 0)), (0, 0), (fun _ => 0), ((fun _ => 0), (fun _ => 0), (fun _ => 0)), (0, 0, 0), (0, 0, 0, 0), (0, 0, 0), (0, 0, 0), (0, 0, 0), (0, 0, 0), (0, 0), 0)
