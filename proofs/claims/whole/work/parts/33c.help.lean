theorem clLI : Cond.classLink RL 13 eI ∈ gG := by decide +kernel
theorem clLA : Cond.classLink RL 29 eA ∈ gG := by decide +kernel
theorem cstI {A : Nat → Prop} {s : State} {args : Array Value} (h : ZX A s) : (Cond.castable eI eI).before args s = true := va_tabs rfl rfl (h.2.2.2 eI (by decide))
theorem cstA {A : Nat → Prop} {s : State} {args : Array Value} (h : ZX A s) : (Cond.castable eA eA).before args s = true := va_tabs rfl rfl (h.2.2.2 eA (by decide))
set_option maxRecDepth 100000 in
set_option maxHeartbeats 4000000 in
theorem xL_poke (l : Launch) (hT : l.stackTraces = false) (D : va_G) (cI cJ cP : ClassId) (ad : Nat → Nat) (sz : Nat) (x : TR) (a1 : Int32) (a2 : Int64)  (hout : a1 < 0 ∨ ¬ a1 ≤ 4095) : Met l yL_poke (Cond.codeWith yL_poke cL_poke 5 (some .int) [(0, 6, 9, 13)] :: gG) { frames := 7, cells := 1, slots := 6, locals := 104 } (va_Pc [.ref (ad 0), .int a1, .long a2] (fun U => PRE D (tz cI cJ cP) sz (wR cI cJ cP ad x) U ∧ ZX (va_A (wR cI cJ cP ad x) sz) U ∧ va_Nc eA eI U)) (va_Qi (fun (r : Int32) (_ : Unit) => r = 1) (AT D (tz cI cJ cP) (va_A (wR cI cJ cP ad x) sz) (fun (_ : Unit) => (wR cI cJ cP ad x))) (va_A (wR cI cJ cP ad x) sz)) 1 6 (va_A (wR cI cJ cP ad x) sz) := by
  refine mh (QA := fun A => (va_Qi (fun (r : Int32) (_ : Unit) => r = 1) (AT D (tz cI cJ cP) A (fun (_ : Unit) => (wR cI cJ cP ad x))) A)) (by decide) (Nat.le_of_ble_eq_true rfl) ?_
  intro p e s m below meth c A ls H hx hb hr hml hown hG hlocks htab hA hS hP hK hD hl hN hZ hNc
  have hown : s.vm.findClass RL = some m.cls := hown
  have hl : lv_has ls 5 [(0, .ref (ad 0)), (1, .int a1), (2, .long a2)] := hl
  refine lv_aload_n hx hb dL_poke_0 rfl (lv_at hl 0 rfl) ?_
  refine lv_iload_n hx hb dL_poke_1 rfl (lv_at hl 1 rfl) ?_
  refine lv_lload_n hx hb dL_poke_2 rfl (lv_at hl 2 rfl) ?_
  refine kXv (As := [.int (a1), .long (a2)]) (rest := []) hx hb hml hown hG hl (xX4_poke l hT D cI cJ cP ad H.size x a1 a2 hout) (cV 2 hG kw395 kw396 kw397 kw398 kw5 hdX4_poke ⟨by decide, by decide⟩) 0 4 rfl rfl hK hP hD hS hA hN hZ (List.append_nil _).symm [] ⟨0, 6, 9, 13⟩ [] htab (fun z hz => absurd hz List.not_mem_nil) (by decide) (by decide) (hG _ clLI) (cstI hZ) rfl rfl (Nat.le_of_ble_eq_true rfl) dL_poke_3 ⟨by decide, by decide⟩ (fun q9 H locs hP hD hS => ?_)
  refine lv_astore (lv' := [(4, .ref (q9)), (0, .ref (ad 0)), (1, .int (a1)), (2, .long (a2))]) hx hb dL_poke_9 hl (by decide) rfl (fun ls hl => ?_)
  refine lv_iconst (v := 1) hx hb dL_poke_11 (by decide) ?_
  exact reti (u := ()) hx hb hr hlocks hK hP hD hS dL_poke_12 rfl
set_option maxRecDepth 100000 in
set_option maxHeartbeats 4000000 in
theorem xL_peek (l : Launch) (hT : l.stackTraces = false) (D : va_G) (cI cJ cP : ClassId) (ad : Nat → Nat) (o : Nat) (sz : Nat) (x : TR) (f : Nat → Int64) (a1 : Int32)  (hout : a1 < 0 ∨ ¬ a1 ≤ 4095) : Met l yL_peek (Cond.codeWith yL_peek cL_peek 4 (some .int) [(0, 8, 11, 13)] :: gG) { frames := 7, cells := 1, slots := 6, locals := 102 } (va_Pc [.ref (ad 0), .int a1, .ref (o)] (fun U => PRE D (tz cI cJ cP) sz (wRO cI cJ cP ad o x f) U ∧ ZX (va_A (wRO cI cJ cP ad o x f) sz) U ∧ va_Nc eA eI U)) (va_Qi (fun (r : Int32) (_ : Unit) => r = 1) (AT D (tz cI cJ cP) (va_A (wRO cI cJ cP ad o x f) sz) (fun (_ : Unit) => (wRO cI cJ cP ad o x f))) (va_A (wRO cI cJ cP ad o x f) sz)) 1 6 (va_A (wRO cI cJ cP ad o x f) sz) := by
  refine mh (QA := fun A => (va_Qi (fun (r : Int32) (_ : Unit) => r = 1) (AT D (tz cI cJ cP) A (fun (_ : Unit) => (wRO cI cJ cP ad o x f))) A)) (by decide) (Nat.le_of_ble_eq_true rfl) ?_
  intro p e s m below meth c A ls H hx hb hr hml hown hG hlocks htab hA hS hP hK hD hl hN hZ hNc
  have hown : s.vm.findClass RL = some m.cls := hown
  have hl : lv_has ls 4 [(0, .ref (ad 0)), (1, .int a1), (2, .ref (o))] := hl
  refine lv_aload_n hx hb dL_peek_0 rfl (lv_at hl 2 rfl) ?_
  refine lv_iconst (v := 0) hx hb dL_peek_1 (by decide) ?_
  refine lv_aload_n hx hb dL_peek_2 rfl (lv_at hl 0 rfl) ?_
  refine lv_iload_n hx hb dL_peek_3 rfl (lv_at hl 1 rfl) ?_
  refine kXl (As := [.int (a1)]) (rest := [.int ((0 : Int32)), .ref (o)]) hx hb hml hown hG hl (xX4_peek l hT D cI cJ cP ad H.size x a1 hout) (cV 1 hG kw399 kw400 kw401 kw402 kw5 hdX4_peek ⟨by decide, by decide⟩) 0 4 rfl rfl hK hP hD hS hA hN hZ rfl [] ⟨0, 8, 11, 13⟩ [] htab (fun z hz => absurd hz List.not_mem_nil) (by decide) (by decide) (hG _ clLI) (cstI hZ) rfl rfl (Nat.le_of_ble_eq_true rfl) dL_peek_4 ⟨by decide, by decide⟩ (fun q9 H locs hP hD hS => ?_)
  refine lv_astore_n (lv' := [(3, .ref (q9)), (0, .ref (ad 0)), (1, .int (a1)), (2, .ref (o))]) hx hb dL_peek_11 rfl hl (by decide) rfl (fun ls hl => ?_)
  refine lv_iconst (v := 1) hx hb dL_peek_12 (by decide) ?_
  exact reti (u := ()) hx hb hr hlocks hK hP hD hS dL_peek_13 rfl
set_option maxRecDepth 100000 in
set_option maxHeartbeats 4000000 in
theorem xL_set (l : Launch) (hT : l.stackTraces = false) (D : va_G) (cI cJ cP : ClassId) (ad : Nat → Nat) (sz : Nat) (x : TR) (a1 : Int32) (a2 : Int64)  (hout : a1 < 0 ∨ ¬ a1 ≤ 10) : Met l yL_set (Cond.codeWith yL_set cL_set 5 (some .int) [(0, 6, 9, 13)] :: gG) { frames := 7, cells := 1, slots := 6, locals := 104 } (va_Pc [.ref (ad 0), .int a1, .long a2] (fun U => PRE D (tz cI cJ cP) sz (wR cI cJ cP ad x) U ∧ ZX (va_A (wR cI cJ cP ad x) sz) U ∧ va_Nc eA eI U)) (va_Qi (fun (r : Int32) (_ : Unit) => r = 1) (AT D (tz cI cJ cP) (va_A (wR cI cJ cP ad x) sz) (fun (_ : Unit) => (wR cI cJ cP ad x))) (va_A (wR cI cJ cP ad x) sz)) 1 6 (va_A (wR cI cJ cP ad x) sz) := by
  refine mh (QA := fun A => (va_Qi (fun (r : Int32) (_ : Unit) => r = 1) (AT D (tz cI cJ cP) A (fun (_ : Unit) => (wR cI cJ cP ad x))) A)) (by decide) (Nat.le_of_ble_eq_true rfl) ?_
  intro p e s m below meth c A ls H hx hb hr hml hown hG hlocks htab hA hS hP hK hD hl hN hZ hNc
  have hown : s.vm.findClass RL = some m.cls := hown
  have hl : lv_has ls 5 [(0, .ref (ad 0)), (1, .int a1), (2, .long a2)] := hl
  refine lv_aload_n hx hb dL_set_0 rfl (lv_at hl 0 rfl) ?_
  refine lv_iload_n hx hb dL_set_1 rfl (lv_at hl 1 rfl) ?_
  refine lv_lload_n hx hb dL_set_2 rfl (lv_at hl 2 rfl) ?_
  refine kXv (As := [.int (a1), .long (a2)]) (rest := []) hx hb hml hown hG hl (xX4_set l hT D cI cJ cP ad H.size x a1 a2 hout) (cV 2 hG kw403 kw404 kw405 kw406 kw5 hdX4_set ⟨by decide, by decide⟩) 0 4 rfl rfl hK hP hD hS hA hN hZ (List.append_nil _).symm [] ⟨0, 6, 9, 13⟩ [] htab (fun z hz => absurd hz List.not_mem_nil) (by decide) (by decide) (hG _ clLI) (cstI hZ) rfl rfl (Nat.le_of_ble_eq_true rfl) dL_set_3 ⟨by decide, by decide⟩ (fun q9 H locs hP hD hS => ?_)
  refine lv_astore (lv' := [(4, .ref (q9)), (0, .ref (ad 0)), (1, .int (a1)), (2, .long (a2))]) hx hb dL_set_9 hl (by decide) rfl (fun ls hl => ?_)
  refine lv_iconst (v := 1) hx hb dL_set_11 (by decide) ?_
  exact reti (u := ()) hx hb hr hlocks hK hP hD hS dL_set_12 rfl
set_option maxRecDepth 100000 in
set_option maxHeartbeats 4000000 in
theorem xL_get (l : Launch) (hT : l.stackTraces = false) (D : va_G) (cI cJ cP : ClassId) (ad : Nat → Nat) (o : Nat) (sz : Nat) (x : TR) (f : Nat → Int64) (a1 : Int32)  (hout : a1 < 0 ∨ ¬ a1 ≤ 10) : Met l yL_get (Cond.codeWith yL_get cL_get 4 (some .int) [(0, 8, 11, 13)] :: gG) { frames := 7, cells := 1, slots := 6, locals := 102 } (va_Pc [.ref (ad 0), .int a1, .ref (o)] (fun U => PRE D (tz cI cJ cP) sz (wRO cI cJ cP ad o x f) U ∧ ZX (va_A (wRO cI cJ cP ad o x f) sz) U ∧ va_Nc eA eI U)) (va_Qi (fun (r : Int32) (_ : Unit) => r = 1) (AT D (tz cI cJ cP) (va_A (wRO cI cJ cP ad o x f) sz) (fun (_ : Unit) => (wRO cI cJ cP ad o x f))) (va_A (wRO cI cJ cP ad o x f) sz)) 1 6 (va_A (wRO cI cJ cP ad o x f) sz) := by
  refine mh (QA := fun A => (va_Qi (fun (r : Int32) (_ : Unit) => r = 1) (AT D (tz cI cJ cP) A (fun (_ : Unit) => (wRO cI cJ cP ad o x f))) A)) (by decide) (Nat.le_of_ble_eq_true rfl) ?_
  intro p e s m below meth c A ls H hx hb hr hml hown hG hlocks htab hA hS hP hK hD hl hN hZ hNc
  have hown : s.vm.findClass RL = some m.cls := hown
  have hl : lv_has ls 4 [(0, .ref (ad 0)), (1, .int a1), (2, .ref (o))] := hl
  refine lv_aload_n hx hb dL_get_0 rfl (lv_at hl 2 rfl) ?_
  refine lv_iconst (v := 0) hx hb dL_get_1 (by decide) ?_
  refine lv_aload_n hx hb dL_get_2 rfl (lv_at hl 0 rfl) ?_
  refine lv_iload_n hx hb dL_get_3 rfl (lv_at hl 1 rfl) ?_
  refine kXl (As := [.int (a1)]) (rest := [.int ((0 : Int32)), .ref (o)]) hx hb hml hown hG hl (xX4_get l hT D cI cJ cP ad H.size x a1 hout) (cV 1 hG kw407 kw408 kw409 kw410 kw5 hdX4_get ⟨by decide, by decide⟩) 0 4 rfl rfl hK hP hD hS hA hN hZ rfl [] ⟨0, 8, 11, 13⟩ [] htab (fun z hz => absurd hz List.not_mem_nil) (by decide) (by decide) (hG _ clLI) (cstI hZ) rfl rfl (Nat.le_of_ble_eq_true rfl) dL_get_4 ⟨by decide, by decide⟩ (fun q9 H locs hP hD hS => ?_)
  refine lv_astore_n (lv' := [(3, .ref (q9)), (0, .ref (ad 0)), (1, .int (a1)), (2, .ref (o))]) hx hb dL_get_11 rfl hl (by decide) rfl (fun ls hl => ?_)
  refine lv_iconst (v := 1) hx hb dL_get_12 (by decide) ?_
  exact reti (u := ()) hx hb hr hlocks hK hP hD hS dL_get_13 rfl
set_option maxRecDepth 100000 in
set_option maxHeartbeats 4000000 in
theorem xL_run (l : Launch) (hT : l.stackTraces = false) (D : va_G) (cI cJ cP : ClassId) (ad : Nat → Nat) (o : Nat) (sz : Nat) (x : TR) (f : Nat → Int64) (a1 : Int32)  (hout : a1 < 0 ∨ ¬ a1 ≤ 100) : Met l yL_run (Cond.codeWith yL_run cL_run 4 (some .int) [(0, 9, 12, 29)] :: gG) { frames := 7, cells := 1, slots := 6, locals := 104 } (va_Pc [.ref (ad 0), .int a1, .ref (o)] (fun U => PRE D (tz cI cJ cP) sz (wRO cI cJ cP ad o x f) U ∧ ZX (va_A (wRO cI cJ cP ad o x f) sz) U ∧ va_Nc eA eI U)) (va_Qi (fun (r : Int32) (_ : Unit) => r = 1) (AT D (tz cI cJ cP) (va_A (wRO cI cJ cP ad o x f) sz) (fun (_ : Unit) => (wRO cI cJ cP ad o x f))) (va_A (wRO cI cJ cP ad o x f) sz)) 1 6 (va_A (wRO cI cJ cP ad o x f) sz) := by
  refine mh (QA := fun A => (va_Qi (fun (r : Int32) (_ : Unit) => r = 1) (AT D (tz cI cJ cP) A (fun (_ : Unit) => (wRO cI cJ cP ad o x f))) A)) (by decide) (Nat.le_of_ble_eq_true rfl) ?_
  intro p e s m below meth c A ls H hx hb hr hml hown hG hlocks htab hA hS hP hK hD hl hN hZ hNc
  have hown : s.vm.findClass RL = some m.cls := hown
  have hl : lv_has ls 4 [(0, .ref (ad 0)), (1, .int a1), (2, .ref (o))] := hl
  refine lv_aload_n hx hb dL_run_0 rfl (lv_at hl 2 rfl) ?_
  refine lv_iconst (v := 0) hx hb dL_run_1 (by decide) ?_
  refine lv_aload_n hx hb dL_run_2 rfl (lv_at hl 0 rfl) ?_
  refine lv_iload_n hx hb dL_run_3 rfl (lv_at hl 1 rfl) ?_
  refine kXi (As := [.int (a1)]) (rest := [.int ((0 : Int32)), .ref (o)]) hx hb hml hown hG hl (xX4_run l hT D cI cJ cP ad H.size x a1 hout) (cV 1 hG kw411 kw412 kw413 kw414 kw5 hdX4_run ⟨by decide, by decide⟩) 0 4 rfl rfl hK hP hD hS hA hN hZ rfl [] ⟨0, 9, 12, 29⟩ [] htab (fun z hz => absurd hz List.not_mem_nil) (by decide) (by decide) (hG _ clLA) (cstA hZ) rfl rfl (Nat.le_of_ble_eq_true rfl) dL_run_4 ⟨by decide, by decide⟩ (fun q9 H locs hP hD hS => ?_)
  refine lv_astore_n (lv' := [(3, .ref (q9)), (0, .ref (ad 0)), (1, .int (a1)), (2, .ref (o))]) hx hb dL_run_12 rfl hl (by decide) rfl (fun ls hl => ?_)
  refine lv_iconst (v := 1) hx hb dL_run_13 (by decide) ?_
  exact reti (u := ()) hx hb hr hlocks hK hP hD hS dL_run_14 rfl
set_option maxRecDepth 100000 in
set_option maxHeartbeats 4000000 in
theorem xL_interrupt (l : Launch) (hT : l.stackTraces = false) (D : va_G) (cI cJ cP : ClassId) (ad : Nat → Nat) (sz : Nat) (x : TR) (a1 : Int32)  (hout : a1 < 0 ∨ ¬ a1 ≤ 3) : Met l yL_interrupt (Cond.codeWith yL_interrupt cL_interrupt 3 (some .int) [(0, 5, 8, 13)] :: gG) { frames := 7, cells := 1, slots := 6, locals := 102 } (va_Pc [.ref (ad 0), .int a1] (fun U => PRE D (tz cI cJ cP) sz (wR cI cJ cP ad x) U ∧ ZX (va_A (wR cI cJ cP ad x) sz) U ∧ va_Nc eA eI U)) (va_Qi (fun (r : Int32) (_ : Unit) => r = 1) (AT D (tz cI cJ cP) (va_A (wR cI cJ cP ad x) sz) (fun (_ : Unit) => (wR cI cJ cP ad x))) (va_A (wR cI cJ cP ad x) sz)) 1 6 (va_A (wR cI cJ cP ad x) sz) := by
  refine mh (QA := fun A => (va_Qi (fun (r : Int32) (_ : Unit) => r = 1) (AT D (tz cI cJ cP) A (fun (_ : Unit) => (wR cI cJ cP ad x))) A)) (by decide) (Nat.le_of_ble_eq_true rfl) ?_
  intro p e s m below meth c A ls H hx hb hr hml hown hG hlocks htab hA hS hP hK hD hl hN hZ hNc
  have hown : s.vm.findClass RL = some m.cls := hown
  have hl : lv_has ls 3 [(0, .ref (ad 0)), (1, .int a1)] := hl
  refine lv_aload_n hx hb dL_interrupt_0 rfl (lv_at hl 0 rfl) ?_
  refine lv_iload_n hx hb dL_interrupt_1 rfl (lv_at hl 1 rfl) ?_
  refine kXv (As := [.int (a1)]) (rest := []) hx hb hml hown hG hl (xX4_interrupt l hT D cI cJ cP ad H.size x a1 hout) (cV 1 hG kw415 kw416 kw417 kw418 kw5 hdX4_interrupt ⟨by decide, by decide⟩) 0 4 rfl rfl hK hP hD hS hA hN hZ (List.append_nil _).symm [] ⟨0, 5, 8, 13⟩ [] htab (fun z hz => absurd hz List.not_mem_nil) (by decide) (by decide) (hG _ clLI) (cstI hZ) rfl rfl (Nat.le_of_ble_eq_true rfl) dL_interrupt_2 ⟨by decide, by decide⟩ (fun q9 H locs hP hD hS => ?_)
  refine lv_astore_n (lv' := [(2, .ref (q9)), (0, .ref (ad 0)), (1, .int (a1))]) hx hb dL_interrupt_8 rfl hl (by decide) rfl (fun ls hl => ?_)
  refine lv_iconst (v := 1) hx hb dL_interrupt_9 (by decide) ?_
  exact reti (u := ()) hx hb hr hlocks hK hP hD hS dL_interrupt_10 rfl
set_option maxRecDepth 100000 in
set_option maxHeartbeats 4000000 in
theorem xL_reach (l : Launch) (hT : l.stackTraces = false) (D : va_G) (cI cJ cP : ClassId) (ad : Nat → Nat) (o : Nat) (sz : Nat) (x : TR) (f : Nat → Int64) (a1 : Int32) (a2 : Int32) (a3 : Int32) (a4 : Int32)  (hout : a1 < 0 ∨ ¬ a1 ≤ 15) : Met l yL_reach (Cond.codeWith yL_reach cL_reach 7 (some .int) [(0, 14, 17, 13), (0, 14, 21, 29)] :: gG) { frames := 7, cells := 1, slots := 6, locals := 105 } (va_Pc [.ref (ad 0), .int a1, .int a2, .int a3, .int a4, .ref (o)] (fun U => PRE D (tz cI cJ cP) sz (wRO cI cJ cP ad o x f) U ∧ ZX (va_A (wRO cI cJ cP ad o x f) sz) U ∧ va_Nc eA eI U)) (va_Qi (fun (r : Int32) (_ : Unit) => r = 1) (AT D (tz cI cJ cP) (va_A (wRO cI cJ cP ad o x f) sz) (fun (_ : Unit) => (wRO cI cJ cP ad o x f))) (va_A (wRO cI cJ cP ad o x f) sz)) 1 6 (va_A (wRO cI cJ cP ad o x f) sz) := by
  refine mh (QA := fun A => (va_Qi (fun (r : Int32) (_ : Unit) => r = 1) (AT D (tz cI cJ cP) A (fun (_ : Unit) => (wRO cI cJ cP ad o x f))) A)) (by decide) (Nat.le_of_ble_eq_true rfl) ?_
  intro p e s m below meth c A ls H hx hb hr hml hown hG hlocks htab hA hS hP hK hD hl hN hZ hNc
  have hown : s.vm.findClass RL = some m.cls := hown
  have hl : lv_has ls 7 [(0, .ref (ad 0)), (1, .int a1), (2, .int a2), (3, .int a3), (4, .int a4), (5, .ref (o))] := hl
  refine lv_aload hx hb dL_reach_0 (lv_at hl 5 rfl) ?_
  refine lv_iconst (v := 0) hx hb dL_reach_2 (by decide) ?_
  refine lv_aload_n hx hb dL_reach_3 rfl (lv_at hl 0 rfl) ?_
  refine lv_iload_n hx hb dL_reach_4 rfl (lv_at hl 1 rfl) ?_
  refine lv_iload_n hx hb dL_reach_5 rfl (lv_at hl 2 rfl) ?_
  refine lv_iload_n hx hb dL_reach_6 rfl (lv_at hl 3 rfl) ?_
  refine lv_iload hx hb dL_reach_7 (lv_at hl 4 rfl) ?_
  refine kXi (As := [.int (a1), .int (a2), .int (a3), .int (a4)]) (rest := [.int ((0 : Int32)), .ref (o)]) hx hb hml hown hG hl (xX4_reach l hT D cI cJ cP ad H.size x a1 a2 a3 a4 hout) (cV 4 hG kw419 kw420 kw421 kw422 kw5 hdX4_reach ⟨by decide, by decide⟩) 0 4 rfl rfl hK hP hD hS hA hN hZ rfl [] ⟨0, 14, 17, 13⟩ [⟨0, 14, 21, 29⟩] htab (fun z hz => absurd hz List.not_mem_nil) (by decide) (by decide) (hG _ clLI) (cstI hZ) rfl rfl (Nat.le_of_ble_eq_true rfl) dL_reach_9 ⟨by decide, by decide⟩ (fun q9 H locs hP hD hS => ?_)
  refine lv_astore (lv' := [(6, .ref (q9)), (0, .ref (ad 0)), (1, .int (a1)), (2, .int (a2)), (3, .int (a3)), (4, .int (a4)), (5, .ref (o))]) hx hb dL_reach_17 hl (by decide) rfl (fun ls hl => ?_)
  refine lv_iconst (v := 1) hx hb dL_reach_19 (by decide) ?_
  exact reti (u := ()) hx hb hr hlocks hK hP hD hS dL_reach_20 rfl
set_option maxRecDepth 100000 in
set_option maxHeartbeats 4000000 in
theorem xL_reach2 (l : Launch) (hT : l.stackTraces = false) (D : va_G) (cI cJ cP : ClassId) (ad : Nat → Nat) (o : Nat) (sz : Nat) (x : TR) (f : Nat → Int64) (a1 : Int32) (a2 : Int32) (a3 : Int32) (a4 : Int32) (g1 : i4 a1) (hout : a3 < 0 ∨ 7 < a3 ∨ a2 < 0 ∨ 4095 < a2 ∨ a4 < 0 ∨ ¬ a4 ≤ 2) : Met l yL_reach (Cond.codeWith yL_reach cL_reach 7 (some .int) [(0, 14, 17, 13), (0, 14, 21, 29)] :: gG) { frames := 7, cells := 1, slots := 6, locals := 105 } (va_Pc [.ref (ad 0), .int a1, .int a2, .int a3, .int a4, .ref (o)] (fun U => PRE D (tz cI cJ cP) sz (wRO cI cJ cP ad o x f) U ∧ ZX (va_A (wRO cI cJ cP ad o x f) sz) U ∧ va_Nc eA eI U)) (va_Qi (fun (r : Int32) (_ : Unit) => r = 2) (AT D (tz cI cJ cP) (va_A (wRO cI cJ cP ad o x f) sz) (fun (_ : Unit) => (wRO cI cJ cP ad o x f))) (va_A (wRO cI cJ cP ad o x f) sz)) 1 6 (va_A (wRO cI cJ cP ad o x f) sz) := by
  refine mh (QA := fun A => (va_Qi (fun (r : Int32) (_ : Unit) => r = 2) (AT D (tz cI cJ cP) A (fun (_ : Unit) => (wRO cI cJ cP ad o x f))) A)) (by decide) (Nat.le_of_ble_eq_true rfl) ?_
  intro p e s m below meth c A ls H hx hb hr hml hown hG hlocks htab hA hS hP hK hD hl hN hZ hNc
  have hown : s.vm.findClass RL = some m.cls := hown
  have hl : lv_has ls 7 [(0, .ref (ad 0)), (1, .int a1), (2, .int a2), (3, .int a3), (4, .int a4), (5, .ref (o))] := hl
  refine lv_aload hx hb dL_reach_0 (lv_at hl 5 rfl) ?_
  refine lv_iconst (v := 0) hx hb dL_reach_2 (by decide) ?_
  refine lv_aload_n hx hb dL_reach_3 rfl (lv_at hl 0 rfl) ?_
  refine lv_iload_n hx hb dL_reach_4 rfl (lv_at hl 1 rfl) ?_
  refine lv_iload_n hx hb dL_reach_5 rfl (lv_at hl 2 rfl) ?_
  refine lv_iload_n hx hb dL_reach_6 rfl (lv_at hl 3 rfl) ?_
  refine lv_iload hx hb dL_reach_7 (lv_at hl 4 rfl) ?_
  refine kXi (As := [.int (a1), .int (a2), .int (a3), .int (a4)]) (rest := [.int ((0 : Int32)), .ref (o)]) hx hb hml hown hG hl (xX4_reach2 l hT D cI cJ cP ad H.size x a1 a2 a3 a4 g1 hout) (cV 4 hG kw419 kw420 kw421 kw422 kw5 hdX4_reach ⟨by decide, by decide⟩) 0 4 rfl rfl hK hP hD hS hA hN hZ rfl [⟨0, 14, 17, 13⟩] ⟨0, 14, 21, 29⟩ [] htab (fun z hz => by rw [List.mem_singleton] at hz; subst hz; exact Or.inr ⟨by decide, eI, hG _ clLI, hNc⟩) (by decide) (by decide) (hG _ clLA) (cstA hZ) rfl rfl (Nat.le_of_ble_eq_true rfl) dL_reach_9 ⟨by decide, by decide⟩ (fun q9 H locs hP hD hS => ?_)
  refine lv_astore (lv' := [(6, .ref (q9)), (0, .ref (ad 0)), (1, .int (a1)), (2, .int (a2)), (3, .int (a3)), (4, .int (a4)), (5, .ref (o))]) hx hb dL_reach_21 hl (by decide) rfl (fun ls hl => ?_)
  refine lv_iconst (v := 2) hx hb dL_reach_23 (by decide) ?_
  exact reti (u := ()) hx hb hr hlocks hK hP hD hS dL_reach_24 rfl
