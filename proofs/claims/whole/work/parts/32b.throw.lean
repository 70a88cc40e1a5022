set_option maxRecDepth 100000 in
set_option maxHeartbeats 4000000 in
theorem xX4_poke (l : Launch) (hT : l.stackTraces = false) (D : va_G) (cI cJ cP : ClassId) (ad : Nat → Nat) (sz : Nat) (x : TR) (a0 : Int32) (a1 : Int64)  (hout : a0 < 0 ∨ ¬ a0 ≤ 4095) : vx_Met l yX4_poke (Cond.code yX4_poke cX4_poke 4 none :: gG) { frames := 6, cells := 1, slots := 6, locals := 81 } (va_Pc [.ref (ad 0), .int a0, .long a1] (fun U => PRE D (tz cI cJ cP) sz (wR cI cJ cP ad x) U ∧ ZX (va_A (wR cI cJ cP ad x) sz) U)) (va_Qv (fun (_ : Unit) => False) (AT D (tz cI cJ cP) (va_A (wR cI cJ cP ad x) sz) (fun (_ : Unit) => (wR cI cJ cP ad x))) (va_A (wR cI cJ cP ad x) sz)) (XP D (tz cI cJ cP) eI (wR cI cJ cP ad x) (va_A (wR cI cJ cP ad x) sz)) 1 6 (va_A (wR cI cJ cP ad x) sz) := by
  refine mx (QA := fun A => (va_Qv (fun (_ : Unit) => False) (AT D (tz cI cJ cP) A (fun (_ : Unit) => (wR cI cJ cP ad x))) A)) (XA := fun A => XP D (tz cI cJ cP) eI (wR cI cJ cP ad x) A) (by decide) (Nat.le_of_ble_eq_true rfl) ?_
  intro p e s m below meth c A ls H hx hb hr hml hown hG hlocks hnt hA hS hP hK hD hl hN hZ
  have hown : s.vm.findClass RX4 = some m.cls := hown
  have hl : lv_has ls 4 [(0, .ref (ad 0)), (1, .int a0), (2, .long a1)] := hl
  refine lv_iload_n hx hb dX4_poke_0 rfl (lv_at hl 1 rfl) ?_
  refine lv_if_lt (tgt := 11) hx hb dX4_poke_1 (by decide) (fun h1 => ?_) (fun h1 => ?_)
  · exact thI hx hb hT hown hG hlocks hnt hml hl hK hP hD hS hZ dX4_poke_11 dX4_poke_14 dX4_poke_15 dX4_poke_18 ⟨by decide, by decide, by decide, by decide⟩
  · refine lv_iload_n hx hb dX4_poke_4 rfl (lv_at hl 1 rfl) ?_
    refine lv_sipush (v := 4095) hx hb dX4_poke_5 (by decide) ?_
    refine lv_icmp_le (tgt := 19) hx hb dX4_poke_8 (by decide) (fun h9 => absurd h9 (hout.resolve_left h1)) (fun _ => ?_)
    exact thI hx hb hT hown hG hlocks hnt hml hl hK hP hD hS hZ dX4_poke_11 dX4_poke_14 dX4_poke_15 dX4_poke_18 ⟨by decide, by decide, by decide, by decide⟩
set_option maxRecDepth 100000 in
set_option maxHeartbeats 4000000 in
theorem xX4_peek (l : Launch) (hT : l.stackTraces = false) (D : va_G) (cI cJ cP : ClassId) (ad : Nat → Nat) (sz : Nat) (x : TR) (a0 : Int32)  (hout : a0 < 0 ∨ ¬ a0 ≤ 4095) : vx_Met l yX4_peek (Cond.code yX4_peek cX4_peek 2 (some .long) :: gG) { frames := 6, cells := 1, slots := 6, locals := 81 } (va_Pc [.ref (ad 0), .int a0] (fun U => PRE D (tz cI cJ cP) sz (wR cI cJ cP ad x) U ∧ ZX (va_A (wR cI cJ cP ad x) sz) U)) (va_Ql (fun (_ : Int64) (_ : Unit) => False) (AT D (tz cI cJ cP) (va_A (wR cI cJ cP ad x) sz) (fun (_ : Unit) => (wR cI cJ cP ad x))) (va_A (wR cI cJ cP ad x) sz)) (XP D (tz cI cJ cP) eI (wR cI cJ cP ad x) (va_A (wR cI cJ cP ad x) sz)) 1 6 (va_A (wR cI cJ cP ad x) sz) := by
  refine mx (QA := fun A => (va_Ql (fun (_ : Int64) (_ : Unit) => False) (AT D (tz cI cJ cP) A (fun (_ : Unit) => (wR cI cJ cP ad x))) A)) (XA := fun A => XP D (tz cI cJ cP) eI (wR cI cJ cP ad x) A) (by decide) (Nat.le_of_ble_eq_true rfl) ?_
  intro p e s m below meth c A ls H hx hb hr hml hown hG hlocks hnt hA hS hP hK hD hl hN hZ
  have hown : s.vm.findClass RX4 = some m.cls := hown
  have hl : lv_has ls 2 [(0, .ref (ad 0)), (1, .int a0)] := hl
  refine lv_iload_n hx hb dX4_peek_0 rfl (lv_at hl 1 rfl) ?_
  refine lv_if_lt (tgt := 11) hx hb dX4_peek_1 (by decide) (fun h1 => ?_) (fun h1 => ?_)
  · exact thI hx hb hT hown hG hlocks hnt hml hl hK hP hD hS hZ dX4_peek_11 dX4_peek_14 dX4_peek_15 dX4_peek_18 ⟨by decide, by decide, by decide, by decide⟩
  · refine lv_iload_n hx hb dX4_peek_4 rfl (lv_at hl 1 rfl) ?_
    refine lv_sipush (v := 4095) hx hb dX4_peek_5 (by decide) ?_
    refine lv_icmp_le (tgt := 19) hx hb dX4_peek_8 (by decide) (fun h9 => absurd h9 (hout.resolve_left h1)) (fun _ => ?_)
    exact thI hx hb hT hown hG hlocks hnt hml hl hK hP hD hS hZ dX4_peek_11 dX4_peek_14 dX4_peek_15 dX4_peek_18 ⟨by decide, by decide, by decide, by decide⟩
set_option maxRecDepth 100000 in
set_option maxHeartbeats 4000000 in
theorem xX4_set (l : Launch) (hT : l.stackTraces = false) (D : va_G) (cI cJ cP : ClassId) (ad : Nat → Nat) (sz : Nat) (x : TR) (a0 : Int32) (a1 : Int64)  (hout : a0 < 0 ∨ ¬ a0 ≤ 10) : vx_Met l yX4_set (Cond.code yX4_set cX4_set 4 none :: gG) { frames := 6, cells := 1, slots := 6, locals := 81 } (va_Pc [.ref (ad 0), .int a0, .long a1] (fun U => PRE D (tz cI cJ cP) sz (wR cI cJ cP ad x) U ∧ ZX (va_A (wR cI cJ cP ad x) sz) U)) (va_Qv (fun (_ : Unit) => False) (AT D (tz cI cJ cP) (va_A (wR cI cJ cP ad x) sz) (fun (_ : Unit) => (wR cI cJ cP ad x))) (va_A (wR cI cJ cP ad x) sz)) (XP D (tz cI cJ cP) eI (wR cI cJ cP ad x) (va_A (wR cI cJ cP ad x) sz)) 1 6 (va_A (wR cI cJ cP ad x) sz) := by
  refine mx (QA := fun A => (va_Qv (fun (_ : Unit) => False) (AT D (tz cI cJ cP) A (fun (_ : Unit) => (wR cI cJ cP ad x))) A)) (XA := fun A => XP D (tz cI cJ cP) eI (wR cI cJ cP ad x) A) (by decide) (Nat.le_of_ble_eq_true rfl) ?_
  intro p e s m below meth c A ls H hx hb hr hml hown hG hlocks hnt hA hS hP hK hD hl hN hZ
  have hown : s.vm.findClass RX4 = some m.cls := hown
  have hl : lv_has ls 4 [(0, .ref (ad 0)), (1, .int a0), (2, .long a1)] := hl
  refine lv_iload_n hx hb dX4_set_0 rfl (lv_at hl 1 rfl) ?_
  refine lv_if_lt (tgt := 10) hx hb dX4_set_1 (by decide) (fun h1 => ?_) (fun h1 => ?_)
  · exact thI hx hb hT hown hG hlocks hnt hml hl hK hP hD hS hZ dX4_set_10 dX4_set_13 dX4_set_14 dX4_set_17 ⟨by decide, by decide, by decide, by decide⟩
  · refine lv_iload_n hx hb dX4_set_4 rfl (lv_at hl 1 rfl) ?_
    refine lv_bipush (v := 10) hx hb dX4_set_5 (by decide) ?_
    refine lv_icmp_le (tgt := 18) hx hb dX4_set_7 (by decide) (fun h9 => absurd h9 (hout.resolve_left h1)) (fun _ => ?_)
    exact thI hx hb hT hown hG hlocks hnt hml hl hK hP hD hS hZ dX4_set_10 dX4_set_13 dX4_set_14 dX4_set_17 ⟨by decide, by decide, by decide, by decide⟩
set_option maxRecDepth 100000 in
set_option maxHeartbeats 4000000 in
theorem xX4_get (l : Launch) (hT : l.stackTraces = false) (D : va_G) (cI cJ cP : ClassId) (ad : Nat → Nat) (sz : Nat) (x : TR) (a0 : Int32)  (hout : a0 < 0 ∨ ¬ a0 ≤ 10) : vx_Met l yX4_get (Cond.code yX4_get cX4_get 2 (some .long) :: gG) { frames := 6, cells := 1, slots := 6, locals := 81 } (va_Pc [.ref (ad 0), .int a0] (fun U => PRE D (tz cI cJ cP) sz (wR cI cJ cP ad x) U ∧ ZX (va_A (wR cI cJ cP ad x) sz) U)) (va_Ql (fun (_ : Int64) (_ : Unit) => False) (AT D (tz cI cJ cP) (va_A (wR cI cJ cP ad x) sz) (fun (_ : Unit) => (wR cI cJ cP ad x))) (va_A (wR cI cJ cP ad x) sz)) (XP D (tz cI cJ cP) eI (wR cI cJ cP ad x) (va_A (wR cI cJ cP ad x) sz)) 1 6 (va_A (wR cI cJ cP ad x) sz) := by
  refine mx (QA := fun A => (va_Ql (fun (_ : Int64) (_ : Unit) => False) (AT D (tz cI cJ cP) A (fun (_ : Unit) => (wR cI cJ cP ad x))) A)) (XA := fun A => XP D (tz cI cJ cP) eI (wR cI cJ cP ad x) A) (by decide) (Nat.le_of_ble_eq_true rfl) ?_
  intro p e s m below meth c A ls H hx hb hr hml hown hG hlocks hnt hA hS hP hK hD hl hN hZ
  have hown : s.vm.findClass RX4 = some m.cls := hown
  have hl : lv_has ls 2 [(0, .ref (ad 0)), (1, .int a0)] := hl
  refine lv_iload_n hx hb dX4_get_0 rfl (lv_at hl 1 rfl) ?_
  refine lv_if_lt (tgt := 10) hx hb dX4_get_1 (by decide) (fun h1 => ?_) (fun h1 => ?_)
  · exact thI hx hb hT hown hG hlocks hnt hml hl hK hP hD hS hZ dX4_get_10 dX4_get_13 dX4_get_14 dX4_get_17 ⟨by decide, by decide, by decide, by decide⟩
  · refine lv_iload_n hx hb dX4_get_4 rfl (lv_at hl 1 rfl) ?_
    refine lv_bipush (v := 10) hx hb dX4_get_5 (by decide) ?_
    refine lv_icmp_le (tgt := 18) hx hb dX4_get_7 (by decide) (fun h9 => absurd h9 (hout.resolve_left h1)) (fun _ => ?_)
    exact thI hx hb hT hown hG hlocks hnt hml hl hK hP hD hS hZ dX4_get_10 dX4_get_13 dX4_get_14 dX4_get_17 ⟨by decide, by decide, by decide, by decide⟩
set_option maxRecDepth 100000 in
set_option maxHeartbeats 4000000 in
theorem xX4_run (l : Launch) (hT : l.stackTraces = false) (D : va_G) (cI cJ cP : ClassId) (ad : Nat → Nat) (sz : Nat) (x : TR) (a0 : Int32)  (hout : a0 < 0 ∨ ¬ a0 ≤ 100) : vx_Met l yX4_run (Cond.code yX4_run cX4_run 4 (some .int) :: gG) { frames := 6, cells := 1, slots := 6, locals := 81 } (va_Pc [.ref (ad 0), .int a0] (fun U => PRE D (tz cI cJ cP) sz (wR cI cJ cP ad x) U ∧ ZX (va_A (wR cI cJ cP ad x) sz) U)) (va_Qi (fun (_ : Int32) (_ : Unit) => False) (AT D (tz cI cJ cP) (va_A (wR cI cJ cP ad x) sz) (fun (_ : Unit) => (wR cI cJ cP ad x))) (va_A (wR cI cJ cP ad x) sz)) (XP D (tz cI cJ cP) eA (wR cI cJ cP ad x) (va_A (wR cI cJ cP ad x) sz)) 1 6 (va_A (wR cI cJ cP ad x) sz) := by
  refine mx (QA := fun A => (va_Qi (fun (_ : Int32) (_ : Unit) => False) (AT D (tz cI cJ cP) A (fun (_ : Unit) => (wR cI cJ cP ad x))) A)) (XA := fun A => XP D (tz cI cJ cP) eA (wR cI cJ cP ad x) A) (by decide) (Nat.le_of_ble_eq_true rfl) ?_
  intro p e s m below meth c A ls H hx hb hr hml hown hG hlocks hnt hA hS hP hK hD hl hN hZ
  have hown : s.vm.findClass RX4 = some m.cls := hown
  have hl : lv_has ls 4 [(0, .ref (ad 0)), (1, .int a0)] := hl
  refine lv_iload_n hx hb dX4_run_0 rfl (lv_at hl 1 rfl) ?_
  refine lv_if_lt (tgt := 10) hx hb dX4_run_1 (by decide) (fun h1 => ?_) (fun h1 => ?_)
  · exact thA hx hb hT hown hG hlocks hnt hml hl hK hP hD hS hZ dX4_run_10 dX4_run_13 dX4_run_14 dX4_run_17 ⟨by decide, by decide, by decide, by decide⟩
  · refine lv_iload_n hx hb dX4_run_4 rfl (lv_at hl 1 rfl) ?_
    refine lv_bipush (v := 100) hx hb dX4_run_5 (by decide) ?_
    refine lv_icmp_le (tgt := 18) hx hb dX4_run_7 (by decide) (fun h9 => absurd h9 (hout.resolve_left h1)) (fun _ => ?_)
    exact thA hx hb hT hown hG hlocks hnt hml hl hK hP hD hS hZ dX4_run_10 dX4_run_13 dX4_run_14 dX4_run_17 ⟨by decide, by decide, by decide, by decide⟩
set_option maxRecDepth 100000 in
set_option maxHeartbeats 4000000 in
theorem xX4_interrupt (l : Launch) (hT : l.stackTraces = false) (D : va_G) (cI cJ cP : ClassId) (ad : Nat → Nat) (sz : Nat) (x : TR) (a0 : Int32)  (hout : a0 < 0 ∨ ¬ a0 ≤ 3) : vx_Met l yX4_interrupt (Cond.code yX4_interrupt cX4_interrupt 2 none :: gG) { frames := 6, cells := 1, slots := 6, locals := 81 } (va_Pc [.ref (ad 0), .int a0] (fun U => PRE D (tz cI cJ cP) sz (wR cI cJ cP ad x) U ∧ ZX (va_A (wR cI cJ cP ad x) sz) U)) (va_Qv (fun (_ : Unit) => False) (AT D (tz cI cJ cP) (va_A (wR cI cJ cP ad x) sz) (fun (_ : Unit) => (wR cI cJ cP ad x))) (va_A (wR cI cJ cP ad x) sz)) (XP D (tz cI cJ cP) eI (wR cI cJ cP ad x) (va_A (wR cI cJ cP ad x) sz)) 1 6 (va_A (wR cI cJ cP ad x) sz) := by
  refine mx (QA := fun A => (va_Qv (fun (_ : Unit) => False) (AT D (tz cI cJ cP) A (fun (_ : Unit) => (wR cI cJ cP ad x))) A)) (XA := fun A => XP D (tz cI cJ cP) eI (wR cI cJ cP ad x) A) (by decide) (Nat.le_of_ble_eq_true rfl) ?_
  intro p e s m below meth c A ls H hx hb hr hml hown hG hlocks hnt hA hS hP hK hD hl hN hZ
  have hown : s.vm.findClass RX4 = some m.cls := hown
  have hl : lv_has ls 2 [(0, .ref (ad 0)), (1, .int a0)] := hl
  refine lv_iload_n hx hb dX4_interrupt_0 rfl (lv_at hl 1 rfl) ?_
  refine lv_if_lt (tgt := 9) hx hb dX4_interrupt_1 (by decide) (fun h1 => ?_) (fun h1 => ?_)
  · exact thI hx hb hT hown hG hlocks hnt hml hl hK hP hD hS hZ dX4_interrupt_9 dX4_interrupt_12 dX4_interrupt_13 dX4_interrupt_16 ⟨by decide, by decide, by decide, by decide⟩
  · refine lv_iload_n hx hb dX4_interrupt_4 rfl (lv_at hl 1 rfl) ?_
    refine lv_iconst (v := 3) hx hb dX4_interrupt_5 (by decide) ?_
    refine lv_icmp_le (tgt := 17) hx hb dX4_interrupt_6 (by decide) (fun h9 => absurd h9 (hout.resolve_left h1)) (fun _ => ?_)
    exact thI hx hb hT hown hG hlocks hnt hml hl hK hP hD hS hZ dX4_interrupt_9 dX4_interrupt_12 dX4_interrupt_13 dX4_interrupt_16 ⟨by decide, by decide, by decide, by decide⟩
set_option maxRecDepth 100000 in
set_option maxHeartbeats 4000000 in
theorem xX4_reach (l : Launch) (hT : l.stackTraces = false) (D : va_G) (cI cJ cP : ClassId) (ad : Nat → Nat) (sz : Nat) (x : TR) (a0 : Int32) (a1 : Int32) (a2 : Int32) (a3 : Int32)  (hout : a0 < 0 ∨ ¬ a0 ≤ 15) : vx_Met l yX4_reach (Cond.code yX4_reach cX4_reach 5 (some .int) :: gG) { frames := 6, cells := 1, slots := 6, locals := 81 } (va_Pc [.ref (ad 0), .int a0, .int a1, .int a2, .int a3] (fun U => PRE D (tz cI cJ cP) sz (wR cI cJ cP ad x) U ∧ ZX (va_A (wR cI cJ cP ad x) sz) U)) (va_Qi (fun (_ : Int32) (_ : Unit) => False) (AT D (tz cI cJ cP) (va_A (wR cI cJ cP ad x) sz) (fun (_ : Unit) => (wR cI cJ cP ad x))) (va_A (wR cI cJ cP ad x) sz)) (XP D (tz cI cJ cP) eI (wR cI cJ cP ad x) (va_A (wR cI cJ cP ad x) sz)) 1 6 (va_A (wR cI cJ cP ad x) sz) := by
  refine mx (QA := fun A => (va_Qi (fun (_ : Int32) (_ : Unit) => False) (AT D (tz cI cJ cP) A (fun (_ : Unit) => (wR cI cJ cP ad x))) A)) (XA := fun A => XP D (tz cI cJ cP) eI (wR cI cJ cP ad x) A) (by decide) (Nat.le_of_ble_eq_true rfl) ?_
  intro p e s m below meth c A ls H hx hb hr hml hown hG hlocks hnt hA hS hP hK hD hl hN hZ
  have hown : s.vm.findClass RX4 = some m.cls := hown
  have hl : lv_has ls 5 [(0, .ref (ad 0)), (1, .int a0), (2, .int a1), (3, .int a2), (4, .int a3)] := hl
  refine lv_iload_n hx hb dX4_reach_0 rfl (lv_at hl 1 rfl) ?_
  refine lv_if_lt (tgt := 10) hx hb dX4_reach_1 (by decide) (fun h1 => ?_) (fun h1 => ?_)
  · exact thI hx hb hT hown hG hlocks hnt hml hl hK hP hD hS hZ dX4_reach_10 dX4_reach_13 dX4_reach_14 dX4_reach_17 ⟨by decide, by decide, by decide, by decide⟩
  · refine lv_iload_n hx hb dX4_reach_4 rfl (lv_at hl 1 rfl) ?_
    refine lv_bipush (v := 15) hx hb dX4_reach_5 (by decide) ?_
    refine lv_icmp_le (tgt := 18) hx hb dX4_reach_7 (by decide) (fun h9 => absurd h9 (hout.resolve_left h1)) (fun _ => ?_)
    exact thI hx hb hT hown hG hlocks hnt hml hl hK hP hD hS hZ dX4_reach_10 dX4_reach_13 dX4_reach_14 dX4_reach_17 ⟨by decide, by decide, by decide, by decide⟩
set_option maxRecDepth 100000 in
set_option maxHeartbeats 4000000 in
theorem xX4_reach2 (l : Launch) (hT : l.stackTraces = false) (D : va_G) (cI cJ cP : ClassId) (ad : Nat → Nat) (sz : Nat) (x : TR) (a0 : Int32) (a1 : Int32) (a2 : Int32) (a3 : Int32) (g0 : i4 a0) (hout : a2 < 0 ∨ 7 < a2 ∨ a1 < 0 ∨ 4095 < a1 ∨ a3 < 0 ∨ ¬ a3 ≤ 2) : vx_Met l yX4_reach (Cond.code yX4_reach cX4_reach 5 (some .int) :: gG) { frames := 6, cells := 1, slots := 6, locals := 81 } (va_Pc [.ref (ad 0), .int a0, .int a1, .int a2, .int a3] (fun U => PRE D (tz cI cJ cP) sz (wR cI cJ cP ad x) U ∧ ZX (va_A (wR cI cJ cP ad x) sz) U)) (va_Qi (fun (_ : Int32) (_ : Unit) => False) (AT D (tz cI cJ cP) (va_A (wR cI cJ cP ad x) sz) (fun (_ : Unit) => (wR cI cJ cP ad x))) (va_A (wR cI cJ cP ad x) sz)) (XP D (tz cI cJ cP) eA (wR cI cJ cP ad x) (va_A (wR cI cJ cP ad x) sz)) 1 6 (va_A (wR cI cJ cP ad x) sz) := by
  refine mx (QA := fun A => (va_Qi (fun (_ : Int32) (_ : Unit) => False) (AT D (tz cI cJ cP) A (fun (_ : Unit) => (wR cI cJ cP ad x))) A)) (XA := fun A => XP D (tz cI cJ cP) eA (wR cI cJ cP ad x) A) (by decide) (Nat.le_of_ble_eq_true rfl) ?_
  intro p e s m below meth c A ls H hx hb hr hml hown hG hlocks hnt hA hS hP hK hD hl hN hZ
  have hown : s.vm.findClass RX4 = some m.cls := hown
  have hl : lv_has ls 5 [(0, .ref (ad 0)), (1, .int a0), (2, .int a1), (3, .int a2), (4, .int a3)] := hl
  refine lv_iload_n hx hb dX4_reach_0 rfl (lv_at hl 1 rfl) ?_
  refine lv_if_lt (tgt := 10) hx hb dX4_reach_1 (by decide) (fun h9 => absurd h9 (nn_i4 g0)) (fun _ => ?_)
  refine lv_iload_n hx hb dX4_reach_4 rfl (lv_at hl 1 rfl) ?_
  refine lv_bipush (v := 15) hx hb dX4_reach_5 (by decide) ?_
  refine lv_icmp_le (tgt := 18) hx hb dX4_reach_7 (by decide) (fun _ => ?_) (fun h9 => absurd (leK_i4 g0 (by decide)) h9)
  refine lv_iload_n hx hb dX4_reach_18 rfl (lv_at hl 3 rfl) ?_
  refine lv_if_lt (tgt := 50) hx hb dX4_reach_19 (by decide) (fun h1 => ?_) (fun h1 => ?_)
  · exact thA hx hb hT hown hG hlocks hnt hml hl hK hP hD hS hZ dX4_reach_50 dX4_reach_53 dX4_reach_54 dX4_reach_57 ⟨by decide, by decide, by decide, by decide⟩
  · refine lv_iload_n hx hb dX4_reach_22 rfl (lv_at hl 3 rfl) ?_
    refine lv_bipush (v := 7) hx hb dX4_reach_23 (by decide) ?_
    refine lv_icmp_gt (tgt := 50) hx hb dX4_reach_25 (by decide) (fun h2 => ?_) (fun h2 => ?_)
    · exact thA hx hb hT hown hG hlocks hnt hml hl hK hP hD hS hZ dX4_reach_50 dX4_reach_53 dX4_reach_54 dX4_reach_57 ⟨by decide, by decide, by decide, by decide⟩
    · refine lv_iload_n hx hb dX4_reach_28 rfl (lv_at hl 2 rfl) ?_
      refine lv_if_lt (tgt := 50) hx hb dX4_reach_29 (by decide) (fun h3 => ?_) (fun h3 => ?_)
      · exact thA hx hb hT hown hG hlocks hnt hml hl hK hP hD hS hZ dX4_reach_50 dX4_reach_53 dX4_reach_54 dX4_reach_57 ⟨by decide, by decide, by decide, by decide⟩
      · refine lv_iload_n hx hb dX4_reach_32 rfl (lv_at hl 2 rfl) ?_
        refine lv_sipush (v := 4095) hx hb dX4_reach_33 (by decide) ?_
        refine lv_icmp_gt (tgt := 50) hx hb dX4_reach_36 (by decide) (fun h4 => ?_) (fun h4 => ?_)
        · exact thA hx hb hT hown hG hlocks hnt hml hl hK hP hD hS hZ dX4_reach_50 dX4_reach_53 dX4_reach_54 dX4_reach_57 ⟨by decide, by decide, by decide, by decide⟩
        · refine lv_iload hx hb dX4_reach_39 (lv_at hl 4 rfl) ?_
          refine lv_if_lt (tgt := 50) hx hb dX4_reach_41 (by decide) (fun h5 => ?_) (fun h5 => ?_)
          · exact thA hx hb hT hown hG hlocks hnt hml hl hK hP hD hS hZ dX4_reach_50 dX4_reach_53 dX4_reach_54 dX4_reach_57 ⟨by decide, by decide, by decide, by decide⟩
          · refine lv_iload hx hb dX4_reach_44 (lv_at hl 4 rfl) ?_
            refine lv_iconst (v := 2) hx hb dX4_reach_46 (by decide) ?_
            refine lv_icmp_le (tgt := 58) hx hb dX4_reach_47 (by decide) (fun h9 => absurd h9 (((((hout.resolve_left h1).resolve_left h2).resolve_left h3).resolve_left h4).resolve_left h5)) (fun _ => ?_)
            exact thA hx hb hT hown hG hlocks hnt hml hl hK hP hD hS hZ dX4_reach_50 dX4_reach_53 dX4_reach_54 dX4_reach_57 ⟨by decide, by decide, by decide, by decide⟩
