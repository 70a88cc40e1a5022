theorem le5 {L : Nat} {i : Int32} (hL : L ≤ 2560) (h : ¬ (Int32.ofNat L - 5) < i) : i.toInt + 5 ≤ (L : Int) := by
  have e1 : (Int32.ofNat L).toInt = (L : Int) := Int32.toInt_ofNat_of_lt (by omega)
  have e : (Int32.ofNat L - 5).toInt = (L : Int) - 5 := by
    rw [Int32.toInt_sub, e1, show (5 : Int32).toInt = 5 from by decide]; exact Int.bmod_eq_of_le (by omega) (by omega)
  have := Int.not_lt.mp fun q => h (Int32.lt_iff_toInt_lt.mpr q)
  rw [e] at this; omega
theorem add5 {i : Int32} (h : 0 ≤ i.toInt ∧ i.toInt ≤ 2560) : (i + 5).toInt = i.toInt + 5 := by
  rw [Int32.toInt_add, show (5 : Int32).toInt = 5 from by decide]; exact Int.bmod_eq_of_le (by omega) (by omega)
set_option maxRecDepth 100000 in
set_option maxHeartbeats 4000000 in
theorem loopL {p : Program} {l : Launch} {e : Env} {s : State} {m : MethodId} {below : List Frame} {meth : Method} {c : Code} {b L : Nat} {xs : Nat → Int32} {D : va_G} {cI cJ cP : ClassId} {Q : State → Prop} (hx : p.tables.exec = Jvm.exec) (hb : c.code = code) (hml : c.maxLocals = 8) (hown : s.vm.findClass RL = some m.cls) (hG : ∀ w ∈ gG, w.before #[Value.ref b] s = true) (hT : l.stackTraces = false) (hK : va_K D vwCl (tz cI cJ cP) s) (hN : NST s) (hZ : ZX (fun q => s.heap.size ≤ q) s) (hNc : va_Nc eA eI s) (hX : va_X b L xs s s.heap) (hbl : b < s.heap.size) (hL : L ≤ 2560) (fin : ∀ (H' : Heap) (locs' : List Loc) (ls' : Array Slot) (cells' slots' : Nat), cells' ≤ 1065 → slots' ≤ 16602 → va_S (fun q => s.heap.size ≤ q) s.heap H' locs' → W p l e room_1 s m #[Value.ref b] below meth c H' locs' cells' slots' Q (F0 m 643 ls' [])) : ∀ (n cells slots : Nat) (H : Heap) (locs : List Loc) (ls : Array Slot) (ad ad2 : Nat → Nat) (o : Nat) (u : TR) (v : TM) (f : Nat → Int64) (th i : Int32), cells + n ≤ 1065 → slots + 6 * n ≤ 16602 → 0 ≤ i.toInt → (L : Int) - i.toInt ≤ 5 * (n : Int) → i.toInt ≤ 2560 → iR u → iM v → Rl th u v → va_P D vwCl (WL cI cJ cP ad o ad2 u f v) H → va_D (fun q => s.heap.size ≤ q) (WL cI cJ cP ad o ad2 u f v) → va_S (fun q => s.heap.size ≤ q) s.heap H locs → lv_has ls 8 [(0, .ref b), (1, .ref (ad 0)), (2, .ref (ad2 0)), (3, .ref o), (4, .int i)] → W p l e room_1 s m #[Value.ref b] below meth c H locs cells slots Q (F0 m 23 ls []) := by
  intro n
  induction n with
  | zero =>
    intro cells slots H locs ls ad ad2 o u v f th i hc hs hi0 hiL hi2 hI hM hR hP hD hS hl
    refine lv_iload hx hb dW_23 (lv_at hl 4 rfl) ?_
    refine lv_aload_n hx hb dW_25 rfl (lv_at hl 0 rfl) ?_
    refine va_slen hx hb hX hbl (Nat.not_le.mpr hbl) hS dW_26 ?_
    refine lv_iconst (v := 5) hx hb dW_27 (by decide) ?_
    refine lv_isub hx hb dW_28 ?_
    refine lv_icmp_gt (tgt := 643) hx hb dW_29 (by decide) (fun _ => fin _ _ _ _ _ (by omega) (by omega) hS) (fun h9 => absurd (le5 hL h9) (by omega))
  | succ n ih =>
    intro cells slots H locs ls ad ad2 o u v f th i hc hs hi0 hiL hi2 hI hM hR hP hD hS hl
    refine lv_iload hx hb dW_23 (lv_at hl 4 rfl) ?_
    refine lv_aload_n hx hb dW_25 rfl (lv_at hl 0 rfl) ?_
    refine va_slen hx hb hX hbl (Nat.not_le.mpr hbl) hS dW_26 ?_
    refine lv_iconst (v := 5) hx hb dW_27 (by decide) ?_
    refine lv_isub hx hb dW_28 ?_
    refine lv_icmp_gt (tgt := 643) hx hb dW_29 (by decide) (fun _ => fin _ _ _ _ _ (by omega) (by omega) hS) (fun h9 => ?_)
    have h5 := le5 hL h9
    have hi : 0 ≤ i.toInt ∧ i.toInt + 4 < (L : Int) := ⟨hi0, by omega⟩
    have hf : cells + 1 ≤ 1065 ∧ slots + 6 ≤ 16602 := ⟨by omega, by omega⟩
    have nxt : ∀ (u' : TR) (v' : TM) (f' : Nat → Int64) (th' : Int32) (H' : Heap) (locs' : List Loc) (ls' : Array Slot), iR u' → iM v' → Rl th' u' v' → va_P D vwCl (WL cI cJ cP ad o ad2 u' f' v') H' → va_D (fun q => s.heap.size ≤ q) (WL cI cJ cP ad o ad2 u' f' v') → va_S (fun q => s.heap.size ≤ q) s.heap H' locs' → lv_has ls' 8 [(0, .ref b), (1, .ref (ad 0)), (2, .ref (ad2 0)), (3, .ref o), (4, .int i)] → W p l e room_1 s m #[Value.ref b] below meth c H' locs' (cells + 1) (slots + 6) Q (F0 m 637 ls' []) := by
      intro u' v' f' th' H' locs' ls' hI' hM' hR' hP' hD' hS' hl'
      refine lv_iinc (k := 4) (v := i + 5) (lv' := [(4, .int (i + 5)), (0, .ref b), (1, .ref (ad 0)), (2, .ref (ad2 0)), (3, .ref o)]) hx hb dW_637 hl' rfl rfl (by decide) rfl (fun ls2 hl2 => ?_)
      refine lv_goto (tgt := 23) hx hb dW_640 (by decide) ?_
      have e5 := add5 (i := i) ⟨hi0, hi2⟩
      exact ih _ _ _ _ _ ad ad2 o u' v' f' th' (i + 5) (by omega) (by omega) (by omega) (by omega) (by omega) hI' hM' hR' hP' hD' hS' (lv_sub hl2 [1, 2, 3, 4, 0] rfl)
    refine lv_aload_n hx hb dW_32 rfl (lv_at hl 0 rfl) ?_
    refine lv_iload hx hb dW_33 (lv_at hl 4 rfl) ?_
    refine va_sld hx hb hX hbl (Nat.not_le.mpr hbl) hS (sc0 hL hi) dW_35 ?_
    refine lv_bipush (v := 15) hx hb dW_36 (by decide) ?_
    refine lv_iand hx hb dW_38 ?_
    generalize ((xs (i).toNatClampNeg) &&& (15 : Int32)) = x
    by_cases hz : x.toInt < 0 ∨ 10 < x.toInt
    · refine lv_tableOut (tgt := 637) hx hb dW_39 hz (by decide) ?_
      refine widW (Nat.le_succ _) (Nat.le_add_right _ 6) ?_
      exact nxt u v f th _ _ _ hI hM hR hP hD hS hl
    have z0 : ¬ x.toInt < 0 := fun h => hz (Or.inl h)
    have z1 : ¬ 10 < x.toInt := fun h => hz (Or.inr h)
    rcases (show x.toInt = 0 ∨ x.toInt = 1 ∨ x.toInt = 2 ∨ x.toInt = 3 ∨ x.toInt = 4 ∨ x.toInt = 5 ∨ x.toInt = 6 ∨ x.toInt = 7 ∨ x.toInt = 8 ∨ x.toInt = 9 ∨ x.toInt = 10 by omega) with h | h | h | h | h | h | h | h | h | h | h
    · exact lv_tableIn (off := 57) (tgt := 96) hx hb dW_39 z0 z1 (by rw [h]; rfl) (by decide) (case0 hx hb hml hown hG hT hK hN hZ hNc hX hbl hL hf hi hI hM hR hP hD hS hl nxt)
    · exact lv_tableIn (off := 137) (tgt := 176) hx hb dW_39 z0 z1 (by rw [h]; rfl) (by decide) (case1 hx hb hml hown hG hT hK hN hZ hNc hX hbl hL hf hi hI hM hR hP hD hS hl nxt)
    · exact lv_tableIn (off := 192) (tgt := 231) hx hb dW_39 z0 z1 (by rw [h]; rfl) (by decide) (case2 hx hb hml hown hG hT hK hN hZ hNc hX hbl hL hf hi hI hM hR hP hD hS hl nxt)
    · exact lv_tableIn (off := 272) (tgt := 311) hx hb dW_39 z0 z1 (by rw [h]; rfl) (by decide) (case3 hx hb hml hown hG hT hK hN hZ hNc hX hbl hL hf hi hI hM hR hP hD hS hl nxt)
    · exact lv_tableIn (off := 327) (tgt := 366) hx hb dW_39 z0 z1 (by rw [h]; rfl) (by decide) (case4 hx hb hml hown hG hT hK hN hZ hNc hX hbl hL hf hi hI hM hR hP hD hS hl nxt)
    · exact lv_tableIn (off := 383) (tgt := 422) hx hb dW_39 z0 z1 (by rw [h]; rfl) (by decide) (case5 hx hb hml hown hG hT hK hN hZ hNc hX hbl hL hf hi hI hM hR hP hD hS hl nxt)
    · exact lv_tableIn (off := 394) (tgt := 433) hx hb dW_39 z0 z1 (by rw [h]; rfl) (by decide) (case6 hx hb hml hown hG hT hK hN hZ hNc hX hbl hL hf hi hI hM hR hP hD hS hl nxt)
    · exact lv_tableIn (off := 430) (tgt := 469) hx hb dW_39 z0 z1 (by rw [h]; rfl) (by decide) (case7 hx hb hml hown hG hT hK hN hZ hNc hX hbl hL hf hi hI hM hR hP hD hS hl nxt)
    · exact lv_tableIn (off := 455) (tgt := 494) hx hb dW_39 z0 z1 (by rw [h]; rfl) (by decide) (case8 hx hb hml hown hG hT hK hN hZ hNc hX hbl hL hf hi hI hM hR hP hD hS hl nxt)
    · exact lv_tableIn (off := 469) (tgt := 508) hx hb dW_39 z0 z1 (by rw [h]; rfl) (by decide) (case9 hx hb hml hown hG hT hK hN hZ hNc hX hbl hL hf hi hI hM hR hP hD hS hl nxt)
    · exact lv_tableIn (off := 506) (tgt := 545) hx hb dW_39 z0 z1 (by rw [h]; rfl) (by decide) (case10 hx hb hml hown hG hT hK hN hZ hNc hX hbl hL hf hi hI hM hR hP hD hS hl nxt)
set_option maxRecDepth 100000 in
set_option maxHeartbeats 4000000 in
theorem startL {p : Program} {l : Launch} {e : Env} {s : State} {m : MethodId} {below : List Frame} {meth : Method} {c : Code} {b L : Nat} {xs : Nat → Int32} {D : va_G} {cI cJ cP : ClassId} {Q : State → Prop} (hx : p.tables.exec = Jvm.exec) (hb : c.code = code) (hml : c.maxLocals = 8) (hown : s.vm.findClass RL = some m.cls) (hG : ∀ w ∈ gG, w.before #[Value.ref b] s = true) (hT : l.stackTraces = false) (hK : va_K D vwCl (tz cI cJ cP) s) (hN : NST s) (hZ : ZX (fun q => s.heap.size ≤ q) s) (hNc : va_Nc eA eI s) (hX : va_X b L xs s s.heap) (hbl : b < s.heap.size) (hL : L ≤ 2560) (hAO : va_AO RX2 s) {ls : Array Slot} (hl : lv_has ls 8 [(0, .ref b)]) (kk : ∀ (H : Heap) (locs : List Loc) (ls : Array Slot) (ad ad2 : Nat → Nat) (o : Nat), va_P D vwCl (WL cI cJ cP ad o ad2 zR (fun _ => 0) zM) H → va_D (fun q => s.heap.size ≤ q) (WL cI cJ cP ad o ad2 zR (fun _ => 0) zM) → va_S (fun q => s.heap.size ≤ q) s.heap H locs → lv_has ls 8 [(0, .ref b), (1, .ref (ad 0)), (2, .ref (ad2 0)), (3, .ref o), (4, .int 0)] → W p l e room_1 s m #[Value.ref b] below meth c H locs 33 8362 Q (F0 m 23 ls [])) : W p l e room_1 s m #[Value.ref b] below meth c s.heap [] 0 0 Q (F0 m 0 ls []) := by
  have hP : va_P D vwCl [] s.heap := fun k q hk => by simp at hk
  have hD : va_D (fun q => s.heap.size ≤ q) [] := ⟨fun i j x y hx => by simp at hx, fun k q hk => by simp at hk⟩
  have hS : va_S (fun q => s.heap.size ≤ q) s.heap s.heap [] := va_S.rf
  refine nw (ci := 4) (fs := [.null, .long 0, .long 0, .null, .null, .null, .null, .null, .int 0, .int 0, .int 0, .int 0, .int 0, .int 0, .int 0]) (W' := fun q => [(q, .inr (4, [.null, .long 0, .long 0, .null, .null, .null, .null, .null, .int 0, .int 0, .int 0, .int 0, .int 0, .int 0, .int 0]))]) hx hb hG inX4 tyX4 tyokX4 hown (hG _ kq89) (hG _ kq90) (hG _ kq60) hK hP hD hS (fun _ h => h) rfl (fun j hj => by rcases (show j = 0 ∨ j = 1 ∨ j = 2 ∨ j = 3 ∨ j = 4 ∨ j = 5 ∨ j = 6 ∨ j = 7 ∨ j = 8 ∨ j = 9 ∨ j = 10 ∨ j = 11 ∨ j = 12 ∨ j = 13 ∨ j = 14 by omega) with rfl | rfl | rfl | rfl | rfl | rfl | rfl | rfl | rfl | rfl | rfl | rfl | rfl | rfl | rfl <;> rfl) (by decide) (by decide) dW_0 (fun _ => rfl) (fun q0 H hP hD hS => ?_)
  refine lv_dup hx hb dW_3 rfl ?_
  refine kIv (ex := []) (rest := [.ref q0]) hx hb hml hown hG hl (okX4_init l D cI cJ cP q0 H.size) (Jvm.Pilot.CRingProcessorLaw_law_r6149_a159dd.cI 0 hG kq91 kq92 kq93 kq60 rfl hqX4_init ⟨by decide, by decide⟩) ⟨fun a U g mk q => ⟨q.1, (preB (av := [.ref q0]) a U g mk ⟨q.1, q.2.1⟩).2, va_AO.moved (u := U) (U := U.calling g mk a) (Vm.Alike.refl U.vm) q.2.2⟩, fun U hU hW => ⟨rfl, (preW (av := [.ref q0]) hN hK hP hD U hU hW).2, va_AO.moved hW.alike hAO⟩⟩ hP hD hS (fun _ h => h) rfl (fun _ => rfl) rfl (Nat.le_of_ble_eq_true rfl) dW_4 ⟨by decide, by decide⟩ (fun ad q1 H1 locs hP1 hD1 hS1 => ?_)
  obtain rfl : ad 0 = q0 := q1
  refine lv_astore_n (lv' := [(1, .ref (ad 0)), (0, .ref b)]) hx hb dW_7 rfl hl (by decide) rfl (fun ls hl => ?_)
  have hP2 : va_P D vwCl (wR cI cJ cP ad zR) H1 := hP1
  have hD2 : va_D (fun q => s.heap.size ≤ q) (wR cI cJ cP ad zR) := hD1
  refine nw (ci := 5) (fs := [.int 0, .null, .int 0, .int 0, .null, .null, .null, .null, .null, .long 0, .long 0, .null, .null, .null, .null, .int 0, .int 0, .int 0, .int 0, .int 0, .int 0, .int 0, .int 0, .int 0, .int 0, .int 0, .int 0, .int 0, .int 0, .int 0, .int 0, .int 0, .int 0, .int 0, .long 0, .long 0, .int 0]) (W' := fun q => wR cI cJ cP ad zR ++ [(q, .inr (5, [.int 0, .null, .int 0, .int 0, .null, .null, .null, .null, .null, .long 0, .long 0, .null, .null, .null, .null, .int 0, .int 0, .int 0, .int 0, .int 0, .int 0, .int 0, .int 0, .int 0, .int 0, .int 0, .int 0, .int 0, .int 0, .int 0, .int 0, .int 0, .int 0, .int 0, .long 0, .long 0, .int 0]))]) hx hb hG inX5 tyX5 tyokX5 hown (hG _ kq94) (hG _ kq95) (hG _ kq5) hK hP2 hD2 hS1 (fun _ h => h) rfl (fun j hj => by rcases (show j = 0 ∨ j = 1 ∨ j = 2 ∨ j = 3 ∨ j = 4 ∨ j = 5 ∨ j = 6 ∨ j = 7 ∨ j = 8 ∨ j = 9 ∨ j = 10 ∨ j = 11 ∨ j = 12 ∨ j = 13 ∨ j = 14 ∨ j = 15 ∨ j = 16 ∨ j = 17 ∨ j = 18 ∨ j = 19 ∨ j = 20 ∨ j = 21 ∨ j = 22 ∨ j = 23 ∨ j = 24 ∨ j = 25 ∨ j = 26 ∨ j = 27 ∨ j = 28 ∨ j = 29 ∨ j = 30 ∨ j = 31 ∨ j = 32 ∨ j = 33 ∨ j = 34 ∨ j = 35 ∨ j = 36 by omega) with rfl | rfl | rfl | rfl | rfl | rfl | rfl | rfl | rfl | rfl | rfl | rfl | rfl | rfl | rfl | rfl | rfl | rfl | rfl | rfl | rfl | rfl | rfl | rfl | rfl | rfl | rfl | rfl | rfl | rfl | rfl | rfl | rfl | rfl | rfl | rfl | rfl <;> rfl) (by decide) (by decide) dW_8 (fun _ => rfl) (fun q0 H3 hP3 hD3 hS3 => ?_)
  refine lv_dup hx hb dW_11 rfl ?_
  refine kIv (ex := wR cI cJ cP ad zR) (rest := [.ref q0]) hx hb hml hown hG hl (okX5_init l D cI cJ cP q0 H3.size) (Jvm.Pilot.CRingProcessorLaw_law_r6149_a159dd.cI 0 hG kq96 kq97 kq98 kq5 rfl hqX5_init ⟨by decide, by decide⟩) ⟨preB, preW hN hK (subQ hP3) (subQD hD3)⟩ hP3 hD3 hS3 (fun _ h => h) rfl (fun _ => rfl) rfl (Nat.le_of_ble_eq_true rfl) dW_12 ⟨by decide, by decide⟩ (fun ad2 q1 H4 locs hP4 hD4 hS4 => ?_)
  obtain rfl : ad2 0 = q0 := q1
  refine lv_astore_n (lv' := [(2, .ref (ad2 0)), (1, .ref (ad 0)), (0, .ref b)]) hx hb dW_15 rfl hl (by decide) rfl (fun ls hl => ?_)
  refine lv_iconst (v := 1) hx hb dW_16 (by decide) ?_
  refine na (atype := .long) (cA := cJ) (ty := .long) (N' := 1) (a0 := (1, .inr (.inl (fun _ => 0)))) (W' := fun q => (wR cI cJ cP ad zR ++ wM cI cJ ad2 zM) ++ [(q, .inl (cJ, 1, .inr (.inl (fun _ => 0))))]) hx hb (hG _ kw375) rfl hK hP4 hD4 hS4 (fun _ h => h) 1 rfl (by decide) (fun _ => rfl) (by decide) (by decide) (by decide) (by decide) (by decide) dW_17 (fun _ => rfl) (fun o H5 hP5 hD5 hS5 => ?_)
  have hP6 := swapP hP5
  have hD6 := swapD hD5
  refine lv_astore_n (lv' := [(3, .ref o), (2, .ref (ad2 0)), (1, .ref (ad 0)), (0, .ref b)]) hx hb dW_19 rfl hl (by decide) rfl (fun ls hl => ?_)
  refine lv_iconst (v := 0) hx hb dW_20 (by decide) ?_
  refine lv_istore (lv' := [(4, .int 0), (3, .ref o), (2, .ref (ad2 0)), (1, .ref (ad 0)), (0, .ref b)]) hx hb dW_21 hl (by decide) rfl (fun ls hl => ?_)
  exact kk H5 _ ls ad ad2 o hP6 hD6 hS5 (lv_sub hl [4, 3, 2, 1, 0] rfl)
