def fnX4_advance (x : TR)  : Int32 × TR :=
  let p1 := fnX4_sum x.2.2.2.2.1.2.1 (1 : Int32)
  ((0 : Int32), (x.1, x.2.1, x.2.2.1, x.2.2.2.1, (x.2.2.2.2.1.1, p1, x.2.2.2.2.1.2.2), x.2.2.2.2.2.1, x.2.2.2.2.2.2.1, x.2.2.2.2.2.2.2))
abbrev ivX4_advanceP (z : Int32 × TR) : Prop := i4 z.1 ∧ iR z.2
set_option maxRecDepth 100000 in
set_option maxHeartbeats 4000000 in
theorem ivX4_advance (x : TR)  (hI : iR x) : ivX4_advanceP (fnX4_advance x) := by
  unfold fnX4_advance
  try dsimp only
  have j1 : i12 (fnX4_sum x.2.2.2.2.1.2.1 (1 : Int32)) := (sumX x.2.2.2.2.1.2.1 (1 : Int32))
  generalize fnX4_sum x.2.2.2.2.1.2.1 (1 : Int32) = p1 at j1 ⊢
  exact ⟨(show i4 (0 : Int32) from by decide), ⟨hI.1, hI.2.1, hI.2.2.1, hI.2.2.2.1, ⟨hI.2.2.2.2.1.1, j1, hI.2.2.2.2.1.2.2⟩, hI.2.2.2.2.2.1, hI.2.2.2.2.2.2.1, hI.2.2.2.2.2.2.2⟩⟩
set_option maxRecDepth 100000 in
set_option maxHeartbeats 4000000 in
theorem okX4_advance (l : Launch) (D : va_G) (cI cJ cP : ClassId) (ad : Nat → Nat) (sz : Nat) (x : TR)  (hI : iR x) : Met l yX4_advance (Cond.code yX4_advance cX4_advance 1 (some .int) :: gG) { frames := 1, cells := 0, slots := 0, locals := 21 } (va_Pc [.ref (ad 0)] (PRE D (tz cI cJ cP) sz (wR cI cJ cP ad x))) (va_Qi (fun (r : Int32) (u : TR) => (r, u) = fnX4_advance x) (AT D (tz cI cJ cP) (va_A (wR cI cJ cP ad x) sz) (fun (u : TR) => (wR cI cJ cP ad u))) (va_A (wR cI cJ cP ad x) sz)) 0 0 (va_A (wR cI cJ cP ad x) sz) := by
  refine mo (QA := fun A => va_Qi (fun (r : Int32) (u : TR) => (r, u) = fnX4_advance x) (AT D (tz cI cJ cP) A (fun (u : TR) => (wR cI cJ cP ad u))) A) (by decide) (Nat.le_of_ble_eq_true rfl) ?_
  intro p e s m below meth c A ls H hx hb hr hml hown hG hlocks hnm hA hS hP hK hD hl hN
  have hown : s.vm.findClass RX4 = some m.cls := hown
  have hl : lv_has ls 1 [(0, .ref (ad 0))] := hl
  refine lv_aload_n hx hb dX4_advance_0 rfl (lv_at hl 0 rfl) ?_
  refine va_get (D := D) (ci := 4) (v := .ref (ad 19)) hx hb hG inX4 hown hK hP 0 rfl rfl 5 (by decide) (hG _ kw87) (fun _ h9 => h9) rfl dX4_advance_1 ?_
  refine lv_aload_n hx hb dX4_advance_4 rfl (lv_at hl 0 rfl) ?_
  refine va_get (D := D) (ci := 4) (v := .ref (ad 19)) hx hb hG inX4 hown hK hP 0 rfl rfl 5 (by decide) (hG _ kw87) (fun _ h9 => h9) rfl dX4_advance_5 ?_
  refine va_get (D := D) (ci := 2) (v := .int (x.2.2.2.2.1.2.1)) hx hb hG inX2 hown hK hP 19 rfl rfl 1 (by decide) (hG _ kw88) (fun _ h9 => h9) rfl dX4_advance_8 ?_
  refine lv_iconst (v := 1) hx hb dX4_advance_11 (by decide) ?_
  refine k0Si (As := [.int (x.2.2.2.2.1.2.1), .int ((1 : Int32))]) (rest := [.ref (ad 19)]) hx hb hml hown hG hl (okX4_sum l D cI cJ cP  H.size x.2.2.2.2.1.2.1 (1 : Int32) ) (cS 2 hG kw34 kw89 kw35 kw5 hdX4_sum ⟨by decide, by decide⟩) hK hP hD hS hA hN rfl rfl (Nat.le_of_ble_eq_true rfl) dX4_advance_12 ⟨Nat.zero_le _, Nat.zero_le _⟩ (fun r1 q1 H locs hP hD hS => ?_)
  have j1 : i12 r1 := by rw [q1]; exact (sumX x.2.2.2.2.1.2.1 (1 : Int32))
  refine pu (D := D) (ci := 2) (v := .int (r1)) (ty := .int) (W' := (wR cI cJ cP ad (x.1, x.2.1, x.2.2.1, x.2.2.2.1, (x.2.2.2.2.1.1, r1, x.2.2.2.2.1.2.2), x.2.2.2.2.2.1, x.2.2.2.2.2.2.1, x.2.2.2.2.2.2.2))) hx hb hG inX2 tyX2 tyokX2 nmX2 hown hK hP hD hS 19 rfl rfl 1 (by decide) (hG _ kw88) (fun _ h9 => h9) rfl (by decide +kernel) rfl rfl (Nat.le_of_ble_eq_true rfl) dX4_advance_15 rfl (fun H locs hP hD hS => ?_)
  refine lv_iconst (v := 0) hx hb dX4_advance_18 (by decide) ?_
  exact reti (u := (x.1, x.2.1, x.2.2.1, x.2.2.2.1, (x.2.2.2.2.1.1, r1, x.2.2.2.2.1.2.2), x.2.2.2.2.2.1, x.2.2.2.2.2.2.1, x.2.2.2.2.2.2.2)) hx hb hr hlocks hK hP hD hS dX4_advance_19 (by unfold fnX4_advance; rw [← q1]; (try dsimp only); (try exact rfl))
def fnX4_exchange (x : TR)  : Int32 × TR :=
  let p1 := fnX4_advance ((x.1.2, x.1.1), x.2.1, x.2.2.1, x.2.2.2.1, x.2.2.2.2.1, x.2.2.2.2.2.1, x.2.2.2.2.2.2.1, x.2.2.2.2.2.2.2)
  (p1.1, p1.2)
abbrev ivX4_exchangeP (z : Int32 × TR) : Prop := i4 z.1 ∧ iR z.2
set_option maxRecDepth 100000 in
set_option maxHeartbeats 4000000 in
theorem ivX4_exchange (x : TR)  (hI : iR x) : ivX4_exchangeP (fnX4_exchange x) := by
  unfold fnX4_exchange
  try dsimp only
  have j1 : ivX4_advanceP (fnX4_advance ((x.1.2, x.1.1), x.2.1, x.2.2.1, x.2.2.2.1, x.2.2.2.2.1, x.2.2.2.2.2.1, x.2.2.2.2.2.2.1, x.2.2.2.2.2.2.2)) := ivX4_advance ((x.1.2, x.1.1), x.2.1, x.2.2.1, x.2.2.2.1, x.2.2.2.2.1, x.2.2.2.2.2.1, x.2.2.2.2.2.2.1, x.2.2.2.2.2.2.2) ⟨⟨hI.1.2, hI.1.1⟩, hI.2.1, hI.2.2.1, hI.2.2.2.1, hI.2.2.2.2.1, hI.2.2.2.2.2.1, hI.2.2.2.2.2.2.1, hI.2.2.2.2.2.2.2⟩
  generalize fnX4_advance ((x.1.2, x.1.1), x.2.1, x.2.2.1, x.2.2.2.1, x.2.2.2.2.1, x.2.2.2.2.2.1, x.2.2.2.2.2.2.1, x.2.2.2.2.2.2.2) = p1 at j1 ⊢
  exact ⟨j1.1, j1.2⟩
set_option maxRecDepth 100000 in
set_option maxHeartbeats 4000000 in
theorem okX4_exchange (l : Launch) (D : va_G) (cI cJ cP : ClassId) (ad : Nat → Nat) (sz : Nat) (x : TR)  (hI : iR x) : Met l yX4_exchange (Cond.code yX4_exchange cX4_exchange 3 (some .int) :: gG) { frames := 2, cells := 0, slots := 0, locals := 41 } (va_Pc [.ref (ad 0)] (PRE D (tz cI cJ cP) sz (wR cI cJ cP ad x))) (va_Qi (fun (r : Int32) (u : TR) => (r, u) = fnX4_exchange x) (AT D (tz cI cJ cP) (va_A (wR cI cJ cP ad x) sz) (fun (u : TR) => (wR cI cJ cP ad u))) (va_A (wR cI cJ cP ad x) sz)) 0 0 (va_A (wR cI cJ cP ad x) sz) := by
  refine mo (QA := fun A => va_Qi (fun (r : Int32) (u : TR) => (r, u) = fnX4_exchange x) (AT D (tz cI cJ cP) A (fun (u : TR) => (wR cI cJ cP ad u))) A) (by decide) (Nat.le_of_ble_eq_true rfl) ?_
  intro p e s m below meth c A ls H hx hb hr hml hown hG hlocks hnm hA hS hP hK hD hl hN
  have hown : s.vm.findClass RX4 = some m.cls := hown
  have hl : lv_has ls 3 [(0, .ref (ad 0))] := hl
  refine lv_aload_n hx hb dX4_exchange_0 rfl (lv_at hl 0 rfl) ?_
  refine va_get (D := D) (ci := 4) (v := .long (x.1.1)) hx hb hG inX4 hown hK hP 0 rfl rfl 1 (by decide) (hG _ kw90) (fun _ h9 => h9) rfl dX4_exchange_1 ?_
  refine lv_lstore_n (lv' := [(1, .long (x.1.1)), (0, .ref (ad 0))]) hx hb dX4_exchange_4 rfl hl (by decide) rfl (fun ls hl => ?_)
  refine lv_aload_n hx hb dX4_exchange_5 rfl (lv_at hl 1 rfl) ?_
  refine lv_aload_n hx hb dX4_exchange_6 rfl (lv_at hl 1 rfl) ?_
  refine va_get (D := D) (ci := 4) (v := .long (x.1.2)) hx hb hG inX4 hown hK hP 0 rfl rfl 2 (by decide) (hG _ kw91) (fun _ h9 => h9) rfl dX4_exchange_7 ?_
  refine pu (D := D) (ci := 4) (v := .long (x.1.2)) (ty := .long) (W' := (wR cI cJ cP ad ((x.1.2, x.1.2), x.2.1, x.2.2.1, x.2.2.2.1, x.2.2.2.2.1, x.2.2.2.2.2.1, x.2.2.2.2.2.2.1, x.2.2.2.2.2.2.2))) hx hb hG inX4 tyX4 tyokX4 nmX4 hown hK hP hD hS 0 rfl rfl 1 (by decide) (hG _ kw90) (fun _ h9 => h9) rfl (by decide +kernel) rfl rfl (Nat.le_of_ble_eq_true rfl) dX4_exchange_10 rfl (fun H locs hP hD hS => ?_)
  refine lv_aload_n hx hb dX4_exchange_13 rfl (lv_at hl 1 rfl) ?_
  refine lv_lload_n hx hb dX4_exchange_14 rfl (lv_at hl 0 rfl) ?_
  refine pu (D := D) (ci := 4) (v := .long (x.1.1)) (ty := .long) (W' := (wR cI cJ cP ad ((x.1.2, x.1.1), x.2.1, x.2.2.1, x.2.2.2.1, x.2.2.2.2.1, x.2.2.2.2.2.1, x.2.2.2.2.2.2.1, x.2.2.2.2.2.2.2))) hx hb hG inX4 tyX4 tyokX4 nmX4 hown hK hP hD hS 0 rfl rfl 2 (by decide) (hG _ kw91) (fun _ h9 => h9) rfl (by decide +kernel) rfl rfl (Nat.le_of_ble_eq_true rfl) dX4_exchange_15 rfl (fun H locs hP hD hS => ?_)
  refine lv_aload_n hx hb dX4_exchange_18 rfl (lv_at hl 1 rfl) ?_
  refine kFi (As := []) (rest := []) hx hb hml hown hG hl (okX4_advance l D cI cJ cP ad H.size ((x.1.2, x.1.1), x.2.1, x.2.2.1, x.2.2.2.1, x.2.2.2.2.1, x.2.2.2.2.2.1, x.2.2.2.2.2.2.1, x.2.2.2.2.2.2.2) ⟨⟨hI.1.2, hI.1.1⟩, hI.2.1, hI.2.2.1, hI.2.2.2.1, hI.2.2.2.2.1, hI.2.2.2.2.2.1, hI.2.2.2.2.2.2.1, hI.2.2.2.2.2.2.2⟩) (cV 0 hG kw92 kw93 kw94 kw95 kw5 hdX4_advance ⟨by decide, by decide⟩) 0 4 rfl rfl hK hP hD hS hA hN rfl rfl (Nat.le_of_ble_eq_true rfl) dX4_exchange_19 ⟨Nat.zero_le _, Nat.zero_le _⟩ (fun r1 u1 q1 H locs hP hD hS => ?_)
  have j1 : ivX4_advanceP (r1, u1) := by rw [q1]; exact ivX4_advance ((x.1.2, x.1.1), x.2.1, x.2.2.1, x.2.2.2.1, x.2.2.2.2.1, x.2.2.2.2.2.1, x.2.2.2.2.2.2.1, x.2.2.2.2.2.2.2) ⟨⟨hI.1.2, hI.1.1⟩, hI.2.1, hI.2.2.1, hI.2.2.2.1, hI.2.2.2.2.1, hI.2.2.2.2.2.1, hI.2.2.2.2.2.2.1, hI.2.2.2.2.2.2.2⟩
  exact reti (u := u1) hx hb hr hlocks hK hP hD hS dX4_exchange_22 (by unfold fnX4_exchange; rw [← q1]; (try dsimp only); (try exact rfl))
def fnX4_goBack (x : TR)  : Int32 × TR :=
  if x.2.1.2.1 = (0 : Int32) then
   ((6 : Int32), x)
  else
   let p2 := fnX2_become x.2.2.2.2.1 x.2.2.2.2.2.2.1
   ((0 : Int32), (x.1, (x.2.1.1, (0 : Int32), x.2.1.2.2.1, x.2.1.2.2.2.1, x.2.1.2.2.2.2.1, x.2.1.2.2.2.2.2.1, x.2.1.2.2.2.2.2.2), x.2.2.1, x.2.2.2.1, p2, x.2.2.2.2.2.1, x.2.2.2.2.2.2.1, x.2.2.2.2.2.2.2))
abbrev ivX4_goBackP (z : Int32 × TR) : Prop := i4 z.1 ∧ iR z.2
set_option maxRecDepth 100000 in
set_option maxHeartbeats 4000000 in
theorem ivX4_goBack (x : TR)  (hI : iR x) : ivX4_goBackP (fnX4_goBack x) := by
  unfold fnX4_goBack
  try dsimp only
  refine iteI (fun h1 => ?_) (fun h1 => ?_)
  · exact ⟨(show i4 (6 : Int32) from by decide), hI⟩
  · have j2 : ivX2_becomeP (fnX2_become x.2.2.2.2.1 x.2.2.2.2.2.2.1) := ivX2_become x.2.2.2.2.1 x.2.2.2.2.2.2.1 hI.2.2.2.2.1 hI.2.2.2.2.2.2.1
    generalize fnX2_become x.2.2.2.2.1 x.2.2.2.2.2.2.1 = p2 at j2 ⊢
    exact ⟨(show i4 (0 : Int32) from by decide), ⟨hI.1, hI.2.1, hI.2.2.1, hI.2.2.2.1, j2, hI.2.2.2.2.2.1, hI.2.2.2.2.2.2.1, hI.2.2.2.2.2.2.2⟩⟩
set_option maxRecDepth 100000 in
set_option maxHeartbeats 4000000 in
theorem okX4_goBack (l : Launch) (D : va_G) (cI cJ cP : ClassId) (ad : Nat → Nat) (sz : Nat) (x : TR)  (hI : iR x) : Met l yX4_goBack (Cond.code yX4_goBack cX4_goBack 1 (some .int) :: gG) { frames := 1, cells := 0, slots := 0, locals := 21 } (va_Pc [.ref (ad 0)] (PRE D (tz cI cJ cP) sz (wR cI cJ cP ad x))) (va_Qi (fun (r : Int32) (u : TR) => (r, u) = fnX4_goBack x) (AT D (tz cI cJ cP) (va_A (wR cI cJ cP ad x) sz) (fun (u : TR) => (wR cI cJ cP ad u))) (va_A (wR cI cJ cP ad x) sz)) 0 0 (va_A (wR cI cJ cP ad x) sz) := by
  refine mo (QA := fun A => va_Qi (fun (r : Int32) (u : TR) => (r, u) = fnX4_goBack x) (AT D (tz cI cJ cP) A (fun (u : TR) => (wR cI cJ cP ad u))) A) (by decide) (Nat.le_of_ble_eq_true rfl) ?_
  intro p e s m below meth c A ls H hx hb hr hml hown hG hlocks hnm hA hS hP hK hD hl hN
  have hown : s.vm.findClass RX4 = some m.cls := hown
  have hl : lv_has ls 1 [(0, .ref (ad 0))] := hl
  refine lv_aload_n hx hb dX4_goBack_0 rfl (lv_at hl 0 rfl) ?_
  refine va_get (D := D) (ci := 4) (v := .int (x.2.1.2.1)) hx hb hG inX4 hown hK hP 0 rfl rfl 9 (by decide) (hG _ kw96) (fun _ h9 => h9) rfl dX4_goBack_1 ?_
  refine lv_if_ne (tgt := 10) hx hb dX4_goBack_4 (by decide) (fun h1 => ?_) (fun h1 => ?_)
  · refine lv_aload_n hx hb dX4_goBack_10 rfl (lv_at hl 0 rfl) ?_
    refine lv_iconst (v := 0) hx hb dX4_goBack_11 (by decide) ?_
    refine pu (D := D) (ci := 4) (v := .int ((0 : Int32))) (ty := .boolean) (W' := (wR cI cJ cP ad (x.1, (x.2.1.1, (0 : Int32), x.2.1.2.2.1, x.2.1.2.2.2.1, x.2.1.2.2.2.2.1, x.2.1.2.2.2.2.2.1, x.2.1.2.2.2.2.2.2), x.2.2.1, x.2.2.2.1, x.2.2.2.2.1, x.2.2.2.2.2.1, x.2.2.2.2.2.2.1, x.2.2.2.2.2.2.2))) hx hb hG inX4 tyX4 tyokX4 nmX4 hown hK hP hD hS 0 rfl rfl 9 (by decide) (hG _ kw96) (fun _ h9 => h9) rfl (by decide +kernel) rfl rfl (Nat.le_of_ble_eq_true rfl) dX4_goBack_12 rfl (fun H locs hP hD hS => ?_)
    refine lv_aload_n hx hb dX4_goBack_15 rfl (lv_at hl 0 rfl) ?_
    refine va_get (D := D) (ci := 4) (v := .ref (ad 19)) hx hb hG inX4 hown hK hP 0 rfl rfl 5 (by decide) (hG _ kw87) (fun _ h9 => h9) rfl dX4_goBack_16 ?_
    refine lv_aload_n hx hb dX4_goBack_19 rfl (lv_at hl 0 rfl) ?_
    refine va_get (D := D) (ci := 4) (v := .ref (ad 20)) hx hb hG inX4 hown hK hP 0 rfl rfl 7 (by decide) (hG _ kw97) (fun _ h9 => h9) rfl dX4_goBack_20 ?_
    refine kVv (As := [.ref (ad 20)]) (rest := []) (W' := (fun u2 => (wR cI cJ cP ad (x.1, (x.2.1.1, (0 : Int32), x.2.1.2.2.1, x.2.1.2.2.2.1, x.2.1.2.2.2.2.1, x.2.1.2.2.2.2.2.1, x.2.1.2.2.2.2.2.2), x.2.2.1, x.2.2.2.1, u2, x.2.2.2.2.2.1, x.2.2.2.2.2.2.1, x.2.2.2.2.2.2.2)))) hx hb hml hown hG hl (okX2_become l D cI cJ cP (ad 19) (ad 20) H.size x.2.2.2.2.1 x.2.2.2.2.2.2.1 hI.2.2.2.2.1 hI.2.2.2.2.2.2.1) (cV 1 hG kw98 kw100 kw101 kw102 kw99 hdX2_become ⟨by decide, by decide⟩) 19 2 rfl rfl hK hP hD hS hA hN [19, 20] rfl rfl rfl (fun _ => rfl) (fun _ => rfl) rfl rfl (Nat.le_of_ble_eq_true rfl) dX4_goBack_23 ⟨Nat.zero_le _, Nat.zero_le _⟩ (fun u2 q2 H locs hP hD hS => ?_)
    have j2 : ivX2_becomeP u2 := by rw [q2]; exact ivX2_become x.2.2.2.2.1 x.2.2.2.2.2.2.1 hI.2.2.2.2.1 hI.2.2.2.2.2.2.1
    refine lv_iconst (v := 0) hx hb dX4_goBack_26 (by decide) ?_
    exact reti (u := (x.1, (x.2.1.1, (0 : Int32), x.2.1.2.2.1, x.2.1.2.2.2.1, x.2.1.2.2.2.2.1, x.2.1.2.2.2.2.2.1, x.2.1.2.2.2.2.2.2), x.2.2.1, x.2.2.2.1, u2, x.2.2.2.2.2.1, x.2.2.2.2.2.2.1, x.2.2.2.2.2.2.2)) hx hb hr hlocks hK hP hD hS dX4_goBack_27 (by unfold fnX4_goBack; (try dsimp only); rw [if_neg h1]; rw [← q2]; (try dsimp only); (try exact rfl))
  · refine lv_bipush (v := 6) hx hb dX4_goBack_7 (by decide) ?_
    exact reti (u := x) hx hb hr hlocks hK hP hD hS dX4_goBack_9 (by unfold fnX4_goBack; (try dsimp only); rw [if_pos h1]; (try exact rfl))
def fnX4_performInRing0 (x : TR) (a0 : Int32) : Int32 × TR :=
  if a0 = (37 : Int32) then
   let p7 := fnX4_goBack x
   (p7.1, p7.2)
  else
   if a0 = (36 : Int32) then
    let p4 := fnX0_clear x.2.2.2.2.2.2.2.2.1
    let p5 := fnX0_clear x.2.2.2.2.2.2.2.2.2.1
    let p6 := fnX4_advance (x.1, x.2.1, x.2.2.1, x.2.2.2.1, x.2.2.2.2.1, x.2.2.2.2.2.1, x.2.2.2.2.2.2.1, (x.2.2.2.2.2.2.2.1, p4, p5, x.2.2.2.2.2.2.2.2.2.2))
    (p6.1, p6.2)
   else
    let p3 := fnX4_advance (x.1, (x.2.1.1, x.2.1.2.1, (1 : Int32), x.2.1.2.2.2.1, x.2.1.2.2.2.2.1, x.2.1.2.2.2.2.2.1, x.2.1.2.2.2.2.2.2), x.2.2.1, x.2.2.2.1, x.2.2.2.2.1, x.2.2.2.2.2.1, x.2.2.2.2.2.2.1, x.2.2.2.2.2.2.2)
    (p3.1, p3.2)
abbrev ivX4_performInRing0P (z : Int32 × TR) : Prop := i4 z.1 ∧ iR z.2
set_option maxRecDepth 100000 in
set_option maxHeartbeats 4000000 in
theorem ivX4_performInRing0 (x : TR) (a0 : Int32) (hI : iR x) : ivX4_performInRing0P (fnX4_performInRing0 x a0) := by
  unfold fnX4_performInRing0
  try dsimp only
  refine iteI (fun h1 => ?_) (fun h1 => ?_)
  · have j7 : ivX4_goBackP (fnX4_goBack x) := ivX4_goBack x hI
    generalize fnX4_goBack x = p7 at j7 ⊢
    exact ⟨j7.1, j7.2⟩
  · refine iteI (fun h2 => ?_) (fun h2 => ?_)
    · have j4 : ivX0_clearP (fnX0_clear x.2.2.2.2.2.2.2.2.1) := ivX0_clear x.2.2.2.2.2.2.2.2.1 hI.2.2.2.2.2.2.2.2.1
      generalize fnX0_clear x.2.2.2.2.2.2.2.2.1 = p4 at j4 ⊢
      have j5 : ivX0_clearP (fnX0_clear x.2.2.2.2.2.2.2.2.2.1) := ivX0_clear x.2.2.2.2.2.2.2.2.2.1 hI.2.2.2.2.2.2.2.2.2.1
      generalize fnX0_clear x.2.2.2.2.2.2.2.2.2.1 = p5 at j5 ⊢
      have j6 : ivX4_advanceP (fnX4_advance (x.1, x.2.1, x.2.2.1, x.2.2.2.1, x.2.2.2.2.1, x.2.2.2.2.2.1, x.2.2.2.2.2.2.1, (x.2.2.2.2.2.2.2.1, p4, p5, x.2.2.2.2.2.2.2.2.2.2))) := ivX4_advance (x.1, x.2.1, x.2.2.1, x.2.2.2.1, x.2.2.2.2.1, x.2.2.2.2.2.1, x.2.2.2.2.2.2.1, (x.2.2.2.2.2.2.2.1, p4, p5, x.2.2.2.2.2.2.2.2.2.2)) ⟨hI.1, hI.2.1, hI.2.2.1, hI.2.2.2.1, hI.2.2.2.2.1, hI.2.2.2.2.2.1, hI.2.2.2.2.2.2.1, ⟨hI.2.2.2.2.2.2.2.1, j4, j5, hI.2.2.2.2.2.2.2.2.2.2⟩⟩
      generalize fnX4_advance (x.1, x.2.1, x.2.2.1, x.2.2.2.1, x.2.2.2.2.1, x.2.2.2.2.2.1, x.2.2.2.2.2.2.1, (x.2.2.2.2.2.2.2.1, p4, p5, x.2.2.2.2.2.2.2.2.2.2)) = p6 at j6 ⊢
      exact ⟨j6.1, j6.2⟩
    · have j3 : ivX4_advanceP (fnX4_advance (x.1, (x.2.1.1, x.2.1.2.1, (1 : Int32), x.2.1.2.2.2.1, x.2.1.2.2.2.2.1, x.2.1.2.2.2.2.2.1, x.2.1.2.2.2.2.2.2), x.2.2.1, x.2.2.2.1, x.2.2.2.2.1, x.2.2.2.2.2.1, x.2.2.2.2.2.2.1, x.2.2.2.2.2.2.2)) := ivX4_advance (x.1, (x.2.1.1, x.2.1.2.1, (1 : Int32), x.2.1.2.2.2.1, x.2.1.2.2.2.2.1, x.2.1.2.2.2.2.2.1, x.2.1.2.2.2.2.2.2), x.2.2.1, x.2.2.2.1, x.2.2.2.2.1, x.2.2.2.2.2.1, x.2.2.2.2.2.2.1, x.2.2.2.2.2.2.2) ⟨hI.1, hI.2.1, hI.2.2.1, hI.2.2.2.1, hI.2.2.2.2.1, hI.2.2.2.2.2.1, hI.2.2.2.2.2.2.1, hI.2.2.2.2.2.2.2⟩
      generalize fnX4_advance (x.1, (x.2.1.1, x.2.1.2.1, (1 : Int32), x.2.1.2.2.2.1, x.2.1.2.2.2.2.1, x.2.1.2.2.2.2.2.1, x.2.1.2.2.2.2.2.2), x.2.2.1, x.2.2.2.1, x.2.2.2.2.1, x.2.2.2.2.2.1, x.2.2.2.2.2.2.1, x.2.2.2.2.2.2.2) = p3 at j3 ⊢
      exact ⟨j3.1, j3.2⟩
set_option maxRecDepth 100000 in
set_option maxHeartbeats 4000000 in
theorem okX4_performInRing0 (l : Launch) (D : va_G) (cI cJ cP : ClassId) (ad : Nat → Nat) (sz : Nat) (x : TR) (a0 : Int32) (hI : iR x) : Met l yX4_performInRing0 (Cond.code yX4_performInRing0 cX4_performInRing0 2 (some .int) :: gG) { frames := 2, cells := 0, slots := 0, locals := 41 } (va_Pc [.ref (ad 0), .int a0] (PRE D (tz cI cJ cP) sz (wR cI cJ cP ad x))) (va_Qi (fun (r : Int32) (u : TR) => (r, u) = fnX4_performInRing0 x a0) (AT D (tz cI cJ cP) (va_A (wR cI cJ cP ad x) sz) (fun (u : TR) => (wR cI cJ cP ad u))) (va_A (wR cI cJ cP ad x) sz)) 0 0 (va_A (wR cI cJ cP ad x) sz) := by
  refine mo (QA := fun A => va_Qi (fun (r : Int32) (u : TR) => (r, u) = fnX4_performInRing0 x a0) (AT D (tz cI cJ cP) A (fun (u : TR) => (wR cI cJ cP ad u))) A) (by decide) (Nat.le_of_ble_eq_true rfl) ?_
  intro p e s m below meth c A ls H hx hb hr hml hown hG hlocks hnm hA hS hP hK hD hl hN
  have hown : s.vm.findClass RX4 = some m.cls := hown
  have hl : lv_has ls 2 [(0, .ref (ad 0)), (1, .int a0)] := hl
  refine lv_iload_n hx hb dX4_performInRing0_0 rfl (lv_at hl 1 rfl) ?_
  refine lv_bipush (v := 37) hx hb dX4_performInRing0_1 (by decide) ?_
  refine lv_icmp_ne (tgt := 11) hx hb dX4_performInRing0_3 (by decide) (fun h1 => ?_) (fun h1 => ?_)
  · refine lv_iload_n hx hb dX4_performInRing0_11 rfl (lv_at hl 1 rfl) ?_
    refine lv_bipush (v := 36) hx hb dX4_performInRing0_12 (by decide) ?_
    refine lv_icmp_ne (tgt := 40) hx hb dX4_performInRing0_14 (by decide) (fun h2 => ?_) (fun h2 => ?_)
    · refine lv_aload_n hx hb dX4_performInRing0_40 rfl (lv_at hl 0 rfl) ?_
      refine lv_iconst (v := 1) hx hb dX4_performInRing0_41 (by decide) ?_
      refine pu (D := D) (ci := 4) (v := .int ((1 : Int32))) (ty := .boolean) (W' := (wR cI cJ cP ad (x.1, (x.2.1.1, x.2.1.2.1, (1 : Int32), x.2.1.2.2.2.1, x.2.1.2.2.2.2.1, x.2.1.2.2.2.2.2.1, x.2.1.2.2.2.2.2.2), x.2.2.1, x.2.2.2.1, x.2.2.2.2.1, x.2.2.2.2.2.1, x.2.2.2.2.2.2.1, x.2.2.2.2.2.2.2))) hx hb hG inX4 tyX4 tyokX4 nmX4 hown hK hP hD hS 0 rfl rfl 10 (by decide) (hG _ kw103) (fun _ h9 => h9) rfl (by decide +kernel) rfl rfl (Nat.le_of_ble_eq_true rfl) dX4_performInRing0_42 rfl (fun H locs hP hD hS => ?_)
      refine lv_aload_n hx hb dX4_performInRing0_45 rfl (lv_at hl 0 rfl) ?_
      refine kFi (As := []) (rest := []) hx hb hml hown hG hl (okX4_advance l D cI cJ cP ad H.size (x.1, (x.2.1.1, x.2.1.2.1, (1 : Int32), x.2.1.2.2.2.1, x.2.1.2.2.2.2.1, x.2.1.2.2.2.2.2.1, x.2.1.2.2.2.2.2.2), x.2.2.1, x.2.2.2.1, x.2.2.2.2.1, x.2.2.2.2.2.1, x.2.2.2.2.2.2.1, x.2.2.2.2.2.2.2) ⟨hI.1, hI.2.1, hI.2.2.1, hI.2.2.2.1, hI.2.2.2.2.1, hI.2.2.2.2.2.1, hI.2.2.2.2.2.2.1, hI.2.2.2.2.2.2.2⟩) (cV 0 hG kw92 kw93 kw94 kw95 kw5 hdX4_advance ⟨by decide, by decide⟩) 0 4 rfl rfl hK hP hD hS hA hN rfl rfl (Nat.le_of_ble_eq_true rfl) dX4_performInRing0_46 ⟨Nat.zero_le _, Nat.zero_le _⟩ (fun r3 u3 q3 H locs hP hD hS => ?_)
      have j3 : ivX4_advanceP (r3, u3) := by rw [q3]; exact ivX4_advance (x.1, (x.2.1.1, x.2.1.2.1, (1 : Int32), x.2.1.2.2.2.1, x.2.1.2.2.2.2.1, x.2.1.2.2.2.2.2.1, x.2.1.2.2.2.2.2.2), x.2.2.1, x.2.2.2.1, x.2.2.2.2.1, x.2.2.2.2.2.1, x.2.2.2.2.2.2.1, x.2.2.2.2.2.2.2) ⟨hI.1, hI.2.1, hI.2.2.1, hI.2.2.2.1, hI.2.2.2.2.1, hI.2.2.2.2.2.1, hI.2.2.2.2.2.2.1, hI.2.2.2.2.2.2.2⟩
      exact reti (u := u3) hx hb hr hlocks hK hP hD hS dX4_performInRing0_49 (by unfold fnX4_performInRing0; (try dsimp only); rw [if_neg h1]; rw [if_neg h2]; rw [← q3]; (try dsimp only); (try exact rfl))
    · refine lv_aload_n hx hb dX4_performInRing0_17 rfl (lv_at hl 0 rfl) ?_
      refine va_get (D := D) (ci := 4) (v := .ref (ad 1)) hx hb hG inX4 hown hK hP 0 rfl rfl 0 (by decide) (hG _ kw104) (fun _ h9 => h9) rfl dX4_performInRing0_18 ?_
      refine va_get (D := D) (ci := 3) (v := .ref (ad 3)) hx hb hG inX3 hown hK hP 1 rfl rfl 1 (by decide) (hG _ kw105) (fun _ h9 => h9) rfl dX4_performInRing0_21 ?_
      refine kVv (As := []) (rest := []) (W' := (fun u4 => (wR cI cJ cP ad (x.1, x.2.1, x.2.2.1, x.2.2.2.1, x.2.2.2.2.1, x.2.2.2.2.2.1, x.2.2.2.2.2.2.1, (x.2.2.2.2.2.2.2.1, u4, x.2.2.2.2.2.2.2.2.2.1, x.2.2.2.2.2.2.2.2.2.2))))) hx hb hml hown hG hl (okX0_clear l D cI cJ cP (ad 3) (ad 4) (ad 5) (ad 6) H.size x.2.2.2.2.2.2.2.2.1 hI.2.2.2.2.2.2.2.2.1) (cV 0 hG kw106 kw107 kw108 kw109 kw38 hdX0_clear ⟨by decide, by decide⟩) 3 0 rfl rfl hK hP hD hS hA hN [3, 4, 5, 6] rfl rfl rfl (fun _ => rfl) (fun _ => rfl) rfl rfl (Nat.le_of_ble_eq_true rfl) dX4_performInRing0_24 ⟨Nat.zero_le _, Nat.zero_le _⟩ (fun u4 q4 H locs hP hD hS => ?_)
      have j4 : ivX0_clearP u4 := by rw [q4]; exact ivX0_clear x.2.2.2.2.2.2.2.2.1 hI.2.2.2.2.2.2.2.2.1
      refine lv_aload_n hx hb dX4_performInRing0_27 rfl (lv_at hl 0 rfl) ?_
      refine va_get (D := D) (ci := 4) (v := .ref (ad 1)) hx hb hG inX4 hown hK hP 0 rfl rfl 0 (by decide) (hG _ kw104) (fun _ h9 => h9) rfl dX4_performInRing0_28 ?_
      refine va_get (D := D) (ci := 3) (v := .ref (ad 7)) hx hb hG inX3 hown hK hP 1 rfl rfl 2 (by decide) (hG _ kw110) (fun _ h9 => h9) rfl dX4_performInRing0_31 ?_
      refine kVv (As := []) (rest := []) (W' := (fun u5 => (wR cI cJ cP ad (x.1, x.2.1, x.2.2.1, x.2.2.2.1, x.2.2.2.2.1, x.2.2.2.2.2.1, x.2.2.2.2.2.2.1, (x.2.2.2.2.2.2.2.1, u4, u5, x.2.2.2.2.2.2.2.2.2.2))))) hx hb hml hown hG hl (okX0_clear l D cI cJ cP (ad 7) (ad 8) (ad 9) (ad 10) H.size x.2.2.2.2.2.2.2.2.2.1 hI.2.2.2.2.2.2.2.2.2.1) (cV 0 hG kw106 kw107 kw108 kw109 kw38 hdX0_clear ⟨by decide, by decide⟩) 7 0 rfl rfl hK hP hD hS hA hN [7, 8, 9, 10] rfl rfl rfl (fun _ => rfl) (fun _ => rfl) rfl rfl (Nat.le_of_ble_eq_true rfl) dX4_performInRing0_34 ⟨Nat.zero_le _, Nat.zero_le _⟩ (fun u5 q5 H locs hP hD hS => ?_)
      have j5 : ivX0_clearP u5 := by rw [q5]; exact ivX0_clear x.2.2.2.2.2.2.2.2.2.1 hI.2.2.2.2.2.2.2.2.2.1
      refine lv_goto (tgt := 45) hx hb dX4_performInRing0_37 (by decide) ?_
      refine lv_aload_n hx hb dX4_performInRing0_45 rfl (lv_at hl 0 rfl) ?_
      refine kFi (As := []) (rest := []) hx hb hml hown hG hl (okX4_advance l D cI cJ cP ad H.size (x.1, x.2.1, x.2.2.1, x.2.2.2.1, x.2.2.2.2.1, x.2.2.2.2.2.1, x.2.2.2.2.2.2.1, (x.2.2.2.2.2.2.2.1, u4, u5, x.2.2.2.2.2.2.2.2.2.2)) ⟨hI.1, hI.2.1, hI.2.2.1, hI.2.2.2.1, hI.2.2.2.2.1, hI.2.2.2.2.2.1, hI.2.2.2.2.2.2.1, ⟨hI.2.2.2.2.2.2.2.1, j4, j5, hI.2.2.2.2.2.2.2.2.2.2⟩⟩) (cV 0 hG kw92 kw93 kw94 kw95 kw5 hdX4_advance ⟨by decide, by decide⟩) 0 4 rfl rfl hK hP hD hS hA hN rfl rfl (Nat.le_of_ble_eq_true rfl) dX4_performInRing0_46 ⟨Nat.zero_le _, Nat.zero_le _⟩ (fun r6 u6 q6 H locs hP hD hS => ?_)
      have j6 : ivX4_advanceP (r6, u6) := by rw [q6]; exact ivX4_advance (x.1, x.2.1, x.2.2.1, x.2.2.2.1, x.2.2.2.2.1, x.2.2.2.2.2.1, x.2.2.2.2.2.2.1, (x.2.2.2.2.2.2.2.1, u4, u5, x.2.2.2.2.2.2.2.2.2.2)) ⟨hI.1, hI.2.1, hI.2.2.1, hI.2.2.2.1, hI.2.2.2.2.1, hI.2.2.2.2.2.1, hI.2.2.2.2.2.2.1, ⟨hI.2.2.2.2.2.2.2.1, j4, j5, hI.2.2.2.2.2.2.2.2.2.2⟩⟩
      exact reti (u := u6) hx hb hr hlocks hK hP hD hS dX4_performInRing0_49 (by unfold fnX4_performInRing0; (try dsimp only); rw [if_neg h1]; rw [if_pos h2]; rw [← q4]; (try dsimp only); rw [← q5]; (try dsimp only); rw [← q6]; (try dsimp only); (try exact rfl))
  · refine lv_aload_n hx hb dX4_performInRing0_6 rfl (lv_at hl 0 rfl) ?_
    refine kFi (As := []) (rest := []) hx hb hml hown hG hl (okX4_goBack l D cI cJ cP ad H.size x hI) (cV 0 hG kw111 kw112 kw113 kw114 kw5 hdX4_goBack ⟨by decide, by decide⟩) 0 4 rfl rfl hK hP hD hS hA hN rfl rfl (Nat.le_of_ble_eq_true rfl) dX4_performInRing0_7 ⟨Nat.zero_le _, Nat.zero_le _⟩ (fun r7 u7 q7 H locs hP hD hS => ?_)
    have j7 : ivX4_goBackP (r7, u7) := by rw [q7]; exact ivX4_goBack x hI
    exact reti (u := u7) hx hb hr hlocks hK hP hD hS dX4_performInRing0_10 (by unfold fnX4_performInRing0; (try dsimp only); rw [if_pos h1]; rw [← q7]; (try dsimp only); (try exact rfl))
def fnX4_performWithoutAddress (x : TR) (a0 : Int32) : Int32 × TR :=
  if a0 = (0 : Int32) then
   let p2 := fnX4_advance x
   (p2.1, p2.2)
  else
   if a0 = (33 : Int32) then
    let p4 := fnX4_exchange x
    (p4.1, p4.2)
   else
    if a0 = (36 : Int32) then
     if x.2.2.2.2.1.2.2 = (0 : Int32) then
      let p7 := fnX4_performInRing0 x a0
      (p7.1, p7.2)
     else
      ((7 : Int32), x)
    else
     if a0 = (37 : Int32) then
      if x.2.2.2.2.1.2.2 = (0 : Int32) then
       let p10 := fnX4_performInRing0 x a0
       (p10.1, p10.2)
      else
       ((7 : Int32), x)
     else
      if a0 = (38 : Int32) then
       if x.2.2.2.2.1.2.2 = (0 : Int32) then
        let p13 := fnX4_performInRing0 x a0
        (p13.1, p13.2)
       else
        ((7 : Int32), x)
      else
       ((6 : Int32), x)
abbrev ivX4_performWithoutAddressP (z : Int32 × TR) : Prop := i4 z.1 ∧ iR z.2
set_option maxRecDepth 100000 in
set_option maxHeartbeats 4000000 in
theorem ivX4_performWithoutAddress (x : TR) (a0 : Int32) (hI : iR x) : ivX4_performWithoutAddressP (fnX4_performWithoutAddress x a0) := by
  unfold fnX4_performWithoutAddress
  try dsimp only
  refine iteI (fun h1 => ?_) (fun h1 => ?_)
  · have j2 : ivX4_advanceP (fnX4_advance x) := ivX4_advance x hI
    generalize fnX4_advance x = p2 at j2 ⊢
    exact ⟨j2.1, j2.2⟩
  · refine iteI (fun h3 => ?_) (fun h3 => ?_)
    · have j4 : ivX4_exchangeP (fnX4_exchange x) := ivX4_exchange x hI
      generalize fnX4_exchange x = p4 at j4 ⊢
      exact ⟨j4.1, j4.2⟩
    · refine iteI (fun h5 => ?_) (fun h5 => ?_)
      · refine iteI (fun h6 => ?_) (fun h6 => ?_)
        · have j7 : ivX4_performInRing0P (fnX4_performInRing0 x a0) := ivX4_performInRing0 x a0 hI
          generalize fnX4_performInRing0 x a0 = p7 at j7 ⊢
          exact ⟨j7.1, j7.2⟩
        · exact ⟨(show i4 (7 : Int32) from by decide), hI⟩
      · refine iteI (fun h8 => ?_) (fun h8 => ?_)
        · refine iteI (fun h9 => ?_) (fun h9 => ?_)
          · have j10 : ivX4_performInRing0P (fnX4_performInRing0 x a0) := ivX4_performInRing0 x a0 hI
            generalize fnX4_performInRing0 x a0 = p10 at j10 ⊢
            exact ⟨j10.1, j10.2⟩
          · exact ⟨(show i4 (7 : Int32) from by decide), hI⟩
        · refine iteI (fun h11 => ?_) (fun h11 => ?_)
          · refine iteI (fun h12 => ?_) (fun h12 => ?_)
            · have j13 : ivX4_performInRing0P (fnX4_performInRing0 x a0) := ivX4_performInRing0 x a0 hI
              generalize fnX4_performInRing0 x a0 = p13 at j13 ⊢
              exact ⟨j13.1, j13.2⟩
            · exact ⟨(show i4 (7 : Int32) from by decide), hI⟩
          · exact ⟨(show i4 (6 : Int32) from by decide), hI⟩
set_option maxRecDepth 100000 in
set_option maxHeartbeats 4000000 in
theorem okX4_performWithoutAddress (l : Launch) (D : va_G) (cI cJ cP : ClassId) (ad : Nat → Nat) (sz : Nat) (x : TR) (a0 : Int32) (hI : iR x) : Met l yX4_performWithoutAddress (Cond.code yX4_performWithoutAddress cX4_performWithoutAddress 2 (some .int) :: gG) { frames := 3, cells := 0, slots := 0, locals := 63 } (va_Pc [.ref (ad 0), .int a0] (PRE D (tz cI cJ cP) sz (wR cI cJ cP ad x))) (va_Qi (fun (r : Int32) (u : TR) => (r, u) = fnX4_performWithoutAddress x a0) (AT D (tz cI cJ cP) (va_A (wR cI cJ cP ad x) sz) (fun (u : TR) => (wR cI cJ cP ad u))) (va_A (wR cI cJ cP ad x) sz)) 0 0 (va_A (wR cI cJ cP ad x) sz) := by
  refine mo (QA := fun A => va_Qi (fun (r : Int32) (u : TR) => (r, u) = fnX4_performWithoutAddress x a0) (AT D (tz cI cJ cP) A (fun (u : TR) => (wR cI cJ cP ad u))) A) (by decide) (Nat.le_of_ble_eq_true rfl) ?_
  intro p e s m below meth c A ls H hx hb hr hml hown hG hlocks hnm hA hS hP hK hD hl hN
  have hown : s.vm.findClass RX4 = some m.cls := hown
  have hl : lv_has ls 2 [(0, .ref (ad 0)), (1, .int a0)] := hl
  refine lv_iload_n hx hb dX4_performWithoutAddress_0 rfl (lv_at hl 1 rfl) ?_
  by_cases h1 : a0 = (0 : Int32)
  · refine lv_lookup (off := 51) (tgt := 52) hx hb dX4_performWithoutAddress_1 (by decide) (by rw [h1]; decide) (by decide) ?_
    refine lv_aload_n hx hb dX4_performWithoutAddress_52 rfl (lv_at hl 0 rfl) ?_
    refine kFi (As := []) (rest := []) hx hb hml hown hG hl (okX4_advance l D cI cJ cP ad H.size x hI) (cV 0 hG kw92 kw93 kw94 kw95 kw5 hdX4_advance ⟨by decide, by decide⟩) 0 4 rfl rfl hK hP hD hS hA hN rfl rfl (Nat.le_of_ble_eq_true rfl) dX4_performWithoutAddress_53 ⟨Nat.zero_le _, Nat.zero_le _⟩ (fun r2 u2 q2 H locs hP hD hS => ?_)
    have j2 : ivX4_advanceP (r2, u2) := by rw [q2]; exact ivX4_advance x hI
    exact reti (u := u2) hx hb hr hlocks hK hP hD hS dX4_performWithoutAddress_56 (by unfold fnX4_performWithoutAddress; (try dsimp only); rw [if_pos h1]; rw [← q2]; (try dsimp only); (try exact rfl))
  by_cases h3 : a0 = (33 : Int32)
  · refine lv_lookup (off := 56) (tgt := 57) hx hb dX4_performWithoutAddress_1 (by decide) (by rw [h3]; decide) (by decide) ?_
    refine lv_aload_n hx hb dX4_performWithoutAddress_57 rfl (lv_at hl 0 rfl) ?_
    refine kFi (As := []) (rest := []) hx hb hml hown hG hl (okX4_exchange l D cI cJ cP ad H.size x hI) (cV 0 hG kw115 kw116 kw117 kw118 kw5 hdX4_exchange ⟨by decide, by decide⟩) 0 4 rfl rfl hK hP hD hS hA hN rfl rfl (Nat.le_of_ble_eq_true rfl) dX4_performWithoutAddress_58 ⟨Nat.zero_le _, Nat.zero_le _⟩ (fun r4 u4 q4 H locs hP hD hS => ?_)
    have j4 : ivX4_exchangeP (r4, u4) := by rw [q4]; exact ivX4_exchange x hI
    exact reti (u := u4) hx hb hr hlocks hK hP hD hS dX4_performWithoutAddress_61 (by unfold fnX4_performWithoutAddress; (try dsimp only); rw [if_neg h1]; rw [if_pos h3]; rw [← q4]; (try dsimp only); (try exact rfl))
  by_cases h5 : a0 = (36 : Int32)
  · refine lv_lookup (off := 61) (tgt := 62) hx hb dX4_performWithoutAddress_1 (by decide) (by rw [h5]; decide) (by decide) ?_
    refine lv_aload_n hx hb dX4_performWithoutAddress_62 rfl (lv_at hl 0 rfl) ?_
    refine va_get (D := D) (ci := 4) (v := .ref (ad 19)) hx hb hG inX4 hown hK hP 0 rfl rfl 5 (by decide) (hG _ kw87) (fun _ h9 => h9) rfl dX4_performWithoutAddress_63 ?_
    refine va_get (D := D) (ci := 2) (v := .int (x.2.2.2.2.1.2.2)) hx hb hG inX2 hown hK hP 19 rfl rfl 2 (by decide) (hG _ kw119) (fun _ h9 => h9) rfl dX4_performWithoutAddress_66 ?_
    refine lv_if_ne (tgt := 80) hx hb dX4_performWithoutAddress_69 (by decide) (fun h6 => ?_) (fun h6 => ?_)
    · refine lv_bipush (v := 7) hx hb dX4_performWithoutAddress_80 (by decide) ?_
      exact reti (u := x) hx hb hr hlocks hK hP hD hS dX4_performWithoutAddress_82 (by unfold fnX4_performWithoutAddress; (try dsimp only); rw [if_neg h1]; rw [if_neg h3]; rw [if_pos h5]; rw [if_neg h6]; (try exact rfl))
    · refine lv_aload_n hx hb dX4_performWithoutAddress_72 rfl (lv_at hl 0 rfl) ?_
      refine lv_iload_n hx hb dX4_performWithoutAddress_73 rfl (lv_at hl 1 rfl) ?_
      refine kFi (As := [.int (a0)]) (rest := []) hx hb hml hown hG hl (okX4_performInRing0 l D cI cJ cP ad H.size x a0 hI) (cV 1 hG kw120 kw121 kw122 kw123 kw5 hdX4_performInRing0 ⟨by decide, by decide⟩) 0 4 rfl rfl hK hP hD hS hA hN rfl rfl (Nat.le_of_ble_eq_true rfl) dX4_performWithoutAddress_74 ⟨Nat.zero_le _, Nat.zero_le _⟩ (fun r7 u7 q7 H locs hP hD hS => ?_)
      have j7 : ivX4_performInRing0P (r7, u7) := by rw [q7]; exact ivX4_performInRing0 x a0 hI
      refine lv_goto (tgt := 82) hx hb dX4_performWithoutAddress_77 (by decide) ?_
      exact reti (u := u7) hx hb hr hlocks hK hP hD hS dX4_performWithoutAddress_82 (by unfold fnX4_performWithoutAddress; (try dsimp only); rw [if_neg h1]; rw [if_neg h3]; rw [if_pos h5]; rw [if_pos h6]; rw [← q7]; (try dsimp only); (try exact rfl))
  by_cases h8 : a0 = (37 : Int32)
  · refine lv_lookup (off := 61) (tgt := 62) hx hb dX4_performWithoutAddress_1 (by decide) (by rw [h8]; decide) (by decide) ?_
    refine lv_aload_n hx hb dX4_performWithoutAddress_62 rfl (lv_at hl 0 rfl) ?_
    refine va_get (D := D) (ci := 4) (v := .ref (ad 19)) hx hb hG inX4 hown hK hP 0 rfl rfl 5 (by decide) (hG _ kw87) (fun _ h9 => h9) rfl dX4_performWithoutAddress_63 ?_
    refine va_get (D := D) (ci := 2) (v := .int (x.2.2.2.2.1.2.2)) hx hb hG inX2 hown hK hP 19 rfl rfl 2 (by decide) (hG _ kw119) (fun _ h9 => h9) rfl dX4_performWithoutAddress_66 ?_
    refine lv_if_ne (tgt := 80) hx hb dX4_performWithoutAddress_69 (by decide) (fun h9 => ?_) (fun h9 => ?_)
    · refine lv_bipush (v := 7) hx hb dX4_performWithoutAddress_80 (by decide) ?_
      exact reti (u := x) hx hb hr hlocks hK hP hD hS dX4_performWithoutAddress_82 (by unfold fnX4_performWithoutAddress; (try dsimp only); rw [if_neg h1]; rw [if_neg h3]; rw [if_neg h5]; rw [if_pos h8]; rw [if_neg h9]; (try exact rfl))
    · refine lv_aload_n hx hb dX4_performWithoutAddress_72 rfl (lv_at hl 0 rfl) ?_
      refine lv_iload_n hx hb dX4_performWithoutAddress_73 rfl (lv_at hl 1 rfl) ?_
      refine kFi (As := [.int (a0)]) (rest := []) hx hb hml hown hG hl (okX4_performInRing0 l D cI cJ cP ad H.size x a0 hI) (cV 1 hG kw120 kw121 kw122 kw123 kw5 hdX4_performInRing0 ⟨by decide, by decide⟩) 0 4 rfl rfl hK hP hD hS hA hN rfl rfl (Nat.le_of_ble_eq_true rfl) dX4_performWithoutAddress_74 ⟨Nat.zero_le _, Nat.zero_le _⟩ (fun r10 u10 q10 H locs hP hD hS => ?_)
      have j10 : ivX4_performInRing0P (r10, u10) := by rw [q10]; exact ivX4_performInRing0 x a0 hI
      refine lv_goto (tgt := 82) hx hb dX4_performWithoutAddress_77 (by decide) ?_
      exact reti (u := u10) hx hb hr hlocks hK hP hD hS dX4_performWithoutAddress_82 (by unfold fnX4_performWithoutAddress; (try dsimp only); rw [if_neg h1]; rw [if_neg h3]; rw [if_neg h5]; rw [if_pos h8]; rw [if_pos h9]; rw [← q10]; (try dsimp only); (try exact rfl))
  by_cases h11 : a0 = (38 : Int32)
  · refine lv_lookup (off := 61) (tgt := 62) hx hb dX4_performWithoutAddress_1 (by decide) (by rw [h11]; decide) (by decide) ?_
    refine lv_aload_n hx hb dX4_performWithoutAddress_62 rfl (lv_at hl 0 rfl) ?_
    refine va_get (D := D) (ci := 4) (v := .ref (ad 19)) hx hb hG inX4 hown hK hP 0 rfl rfl 5 (by decide) (hG _ kw87) (fun _ h9 => h9) rfl dX4_performWithoutAddress_63 ?_
    refine va_get (D := D) (ci := 2) (v := .int (x.2.2.2.2.1.2.2)) hx hb hG inX2 hown hK hP 19 rfl rfl 2 (by decide) (hG _ kw119) (fun _ h9 => h9) rfl dX4_performWithoutAddress_66 ?_
    refine lv_if_ne (tgt := 80) hx hb dX4_performWithoutAddress_69 (by decide) (fun h12 => ?_) (fun h12 => ?_)
    · refine lv_bipush (v := 7) hx hb dX4_performWithoutAddress_80 (by decide) ?_
      exact reti (u := x) hx hb hr hlocks hK hP hD hS dX4_performWithoutAddress_82 (by unfold fnX4_performWithoutAddress; (try dsimp only); rw [if_neg h1]; rw [if_neg h3]; rw [if_neg h5]; rw [if_neg h8]; rw [if_pos h11]; rw [if_neg h12]; (try exact rfl))
    · refine lv_aload_n hx hb dX4_performWithoutAddress_72 rfl (lv_at hl 0 rfl) ?_
      refine lv_iload_n hx hb dX4_performWithoutAddress_73 rfl (lv_at hl 1 rfl) ?_
      refine kFi (As := [.int (a0)]) (rest := []) hx hb hml hown hG hl (okX4_performInRing0 l D cI cJ cP ad H.size x a0 hI) (cV 1 hG kw120 kw121 kw122 kw123 kw5 hdX4_performInRing0 ⟨by decide, by decide⟩) 0 4 rfl rfl hK hP hD hS hA hN rfl rfl (Nat.le_of_ble_eq_true rfl) dX4_performWithoutAddress_74 ⟨Nat.zero_le _, Nat.zero_le _⟩ (fun r13 u13 q13 H locs hP hD hS => ?_)
      have j13 : ivX4_performInRing0P (r13, u13) := by rw [q13]; exact ivX4_performInRing0 x a0 hI
      refine lv_goto (tgt := 82) hx hb dX4_performWithoutAddress_77 (by decide) ?_
      exact reti (u := u13) hx hb hr hlocks hK hP hD hS dX4_performWithoutAddress_82 (by unfold fnX4_performWithoutAddress; (try dsimp only); rw [if_neg h1]; rw [if_neg h3]; rw [if_neg h5]; rw [if_neg h8]; rw [if_pos h11]; rw [if_pos h12]; rw [← q13]; (try dsimp only); (try exact rfl))
  refine lv_lookup (off := 82) (tgt := 83) hx hb dX4_performWithoutAddress_1 (by decide) ((lv_osw h1 (by decide)).trans ((lv_osw h3 (by decide)).trans ((lv_osw h5 (by decide)).trans ((lv_osw h8 (by decide)).trans ((lv_osw h11 (by decide)).trans (rfl)))))) (by decide) ?_
  refine lv_bipush (v := 6) hx hb dX4_performWithoutAddress_83 (by decide) ?_
  exact reti (u := x) hx hb hr hlocks hK hP hD hS dX4_performWithoutAddress_85 (by unfold fnX4_performWithoutAddress; (try dsimp only); rw [if_neg h1]; rw [if_neg h3]; rw [if_neg h5]; rw [if_neg h8]; rw [if_neg h11]; (try exact rfl))
def fnX4_combined (x : TR) (a0 : Int32) (a1 : Int64) : Int64 :=
  if a0 = (3 : Int32) then
   (x.1.1 + a1)
  else
   if a0 = (4 : Int32) then
    (x.1.1 - a1)
   else
    if a0 = (5 : Int32) then
     (x.1.1 * a1)
    else
     if a0 = (6 : Int32) then
      (x.1.1 &&& a1)
     else
      if a0 = (7 : Int32) then
       (x.1.1 ||| a1)
      else
       if a0 = (8 : Int32) then
        (x.1.1 ^^^ a1)
       else
        a1
set_option maxRecDepth 100000 in
set_option maxHeartbeats 4000000 in
theorem okX4_combined (l : Launch) (D : va_G) (cI cJ cP : ClassId) (ad : Nat → Nat) (sz : Nat) (x : TR) (a0 : Int32) (a1 : Int64) (hI : iR x) : Met l yX4_combined (Cond.code yX4_combined cX4_combined 4 (some .long) :: gG) { frames := 0, cells := 0, slots := 0, locals := 0 } (va_Pc [.ref (ad 0), .int a0, .long a1] (PRE D (tz cI cJ cP) sz (wR cI cJ cP ad x))) (va_Ql (fun (r : Int64) (_ : Unit) => r = fnX4_combined x a0 a1) (AT D (tz cI cJ cP) (va_A (wR cI cJ cP ad x) sz) (fun (_ : Unit) => (wR cI cJ cP ad x))) (va_A (wR cI cJ cP ad x) sz)) 0 0 (va_A (wR cI cJ cP ad x) sz) := by
  refine mo (QA := fun A => va_Ql (fun (r : Int64) (_ : Unit) => r = fnX4_combined x a0 a1) (AT D (tz cI cJ cP) A (fun (_ : Unit) => (wR cI cJ cP ad x))) A) (by decide) (Nat.le_of_ble_eq_true rfl) ?_
  intro p e s m below meth c A ls H hx hb hr hml hown hG hlocks hnm hA hS hP hK hD hl hN
  have hown : s.vm.findClass RX4 = some m.cls := hown
  have hl : lv_has ls 4 [(0, .ref (ad 0)), (1, .int a0), (2, .long a1)] := hl
  refine lv_iload_n hx hb dX4_combined_0 rfl (lv_at hl 1 rfl) ?_
  by_cases h1 : a0 = (3 : Int32)
  · refine lv_tableIn (off := 39) (tgt := 40) hx hb dX4_combined_1 (by rw [h1]; decide) (by rw [h1]; decide) (by rw [h1]; decide) (by decide) ?_
    refine lv_aload_n hx hb dX4_combined_40 rfl (lv_at hl 0 rfl) ?_
    refine va_get (D := D) (ci := 4) (v := .long (x.1.1)) hx hb hG inX4 hown hK hP 0 rfl rfl 1 (by decide) (hG _ kw90) (fun _ h9 => h9) rfl dX4_combined_41 ?_
    refine lv_lload_n hx hb dX4_combined_44 rfl (lv_at hl 2 rfl) ?_
    refine lv_ladd hx hb dX4_combined_45 ?_
    exact retl (u := ()) hx hb hr hlocks hK hP hD hS dX4_combined_46 (by unfold fnX4_combined; (try dsimp only); rw [if_pos h1]; (try exact rfl))
  by_cases h2 : a0 = (4 : Int32)
  · refine lv_tableIn (off := 46) (tgt := 47) hx hb dX4_combined_1 (by rw [h2]; decide) (by rw [h2]; decide) (by rw [h2]; decide) (by decide) ?_
    refine lv_aload_n hx hb dX4_combined_47 rfl (lv_at hl 0 rfl) ?_
    refine va_get (D := D) (ci := 4) (v := .long (x.1.1)) hx hb hG inX4 hown hK hP 0 rfl rfl 1 (by decide) (hG _ kw90) (fun _ h9 => h9) rfl dX4_combined_48 ?_
    refine lv_lload_n hx hb dX4_combined_51 rfl (lv_at hl 2 rfl) ?_
    refine lv_lsub hx hb dX4_combined_52 ?_
    exact retl (u := ()) hx hb hr hlocks hK hP hD hS dX4_combined_53 (by unfold fnX4_combined; (try dsimp only); rw [if_neg h1]; rw [if_pos h2]; (try exact rfl))
  by_cases h3 : a0 = (5 : Int32)
  · refine lv_tableIn (off := 53) (tgt := 54) hx hb dX4_combined_1 (by rw [h3]; decide) (by rw [h3]; decide) (by rw [h3]; decide) (by decide) ?_
    refine lv_aload_n hx hb dX4_combined_54 rfl (lv_at hl 0 rfl) ?_
    refine va_get (D := D) (ci := 4) (v := .long (x.1.1)) hx hb hG inX4 hown hK hP 0 rfl rfl 1 (by decide) (hG _ kw90) (fun _ h9 => h9) rfl dX4_combined_55 ?_
    refine lv_lload_n hx hb dX4_combined_58 rfl (lv_at hl 2 rfl) ?_
    refine lv_lmul hx hb dX4_combined_59 ?_
    exact retl (u := ()) hx hb hr hlocks hK hP hD hS dX4_combined_60 (by unfold fnX4_combined; (try dsimp only); rw [if_neg h1]; rw [if_neg h2]; rw [if_pos h3]; (try exact rfl))
  by_cases h4 : a0 = (6 : Int32)
  · refine lv_tableIn (off := 60) (tgt := 61) hx hb dX4_combined_1 (by rw [h4]; decide) (by rw [h4]; decide) (by rw [h4]; decide) (by decide) ?_
    refine lv_aload_n hx hb dX4_combined_61 rfl (lv_at hl 0 rfl) ?_
    refine va_get (D := D) (ci := 4) (v := .long (x.1.1)) hx hb hG inX4 hown hK hP 0 rfl rfl 1 (by decide) (hG _ kw90) (fun _ h9 => h9) rfl dX4_combined_62 ?_
    refine lv_lload_n hx hb dX4_combined_65 rfl (lv_at hl 2 rfl) ?_
    refine lv_land hx hb dX4_combined_66 ?_
    exact retl (u := ()) hx hb hr hlocks hK hP hD hS dX4_combined_67 (by unfold fnX4_combined; (try dsimp only); rw [if_neg h1]; rw [if_neg h2]; rw [if_neg h3]; rw [if_pos h4]; (try exact rfl))
  by_cases h5 : a0 = (7 : Int32)
  · refine lv_tableIn (off := 67) (tgt := 68) hx hb dX4_combined_1 (by rw [h5]; decide) (by rw [h5]; decide) (by rw [h5]; decide) (by decide) ?_
    refine lv_aload_n hx hb dX4_combined_68 rfl (lv_at hl 0 rfl) ?_
    refine va_get (D := D) (ci := 4) (v := .long (x.1.1)) hx hb hG inX4 hown hK hP 0 rfl rfl 1 (by decide) (hG _ kw90) (fun _ h9 => h9) rfl dX4_combined_69 ?_
    refine lv_lload_n hx hb dX4_combined_72 rfl (lv_at hl 2 rfl) ?_
    refine lv_lor hx hb dX4_combined_73 ?_
    exact retl (u := ()) hx hb hr hlocks hK hP hD hS dX4_combined_74 (by unfold fnX4_combined; (try dsimp only); rw [if_neg h1]; rw [if_neg h2]; rw [if_neg h3]; rw [if_neg h4]; rw [if_pos h5]; (try exact rfl))
  by_cases h6 : a0 = (8 : Int32)
  · refine lv_tableIn (off := 74) (tgt := 75) hx hb dX4_combined_1 (by rw [h6]; decide) (by rw [h6]; decide) (by rw [h6]; decide) (by decide) ?_
    refine lv_aload_n hx hb dX4_combined_75 rfl (lv_at hl 0 rfl) ?_
    refine va_get (D := D) (ci := 4) (v := .long (x.1.1)) hx hb hG inX4 hown hK hP 0 rfl rfl 1 (by decide) (hG _ kw90) (fun _ h9 => h9) rfl dX4_combined_76 ?_
    refine lv_lload_n hx hb dX4_combined_79 rfl (lv_at hl 2 rfl) ?_
    refine lv_lxor hx hb dX4_combined_80 ?_
    exact retl (u := ()) hx hb hr hlocks hK hP hD hS dX4_combined_81 (by unfold fnX4_combined; (try dsimp only); rw [if_neg h1]; rw [if_neg h2]; rw [if_neg h3]; rw [if_neg h4]; rw [if_neg h5]; rw [if_pos h6]; (try exact rfl))
  refine lv_tableOut (tgt := 82) hx hb dX4_combined_1 (by have a0 := neI (n := 3) h1 (by decide); have a1 := neI (n := 4) h2 (by decide); have a2 := neI (n := 5) h3 (by decide); have a3 := neI (n := 6) h4 (by decide); have a4 := neI (n := 7) h5 (by decide); have a5 := neI (n := 8) h6 (by decide); omega) (by decide) ?_
  refine lv_lload_n hx hb dX4_combined_82 rfl (lv_at hl 2 rfl) ?_
  exact retl (u := ()) hx hb hr hlocks hK hP hD hS dX4_combined_83 (by unfold fnX4_combined; (try dsimp only); rw [if_neg h1]; rw [if_neg h2]; rw [if_neg h3]; rw [if_neg h4]; rw [if_neg h5]; rw [if_neg h6]; (try exact rfl))
def fnX4_load (x : TR) (a0 : Int32) : Int32 × TR :=
  let p1 := fnX3_read x.2.2.2.2.2.2.2 x.2.2.2.2.2.1 (0 : Int32)
  if (0 : Int64) ≤ p1.1 then
   if a0 = (9 : Int32) then
    let p4 := fnX4_advance ((x.1.1, p1.1), x.2.1, x.2.2.1, x.2.2.2.1, x.2.2.2.2.1, x.2.2.2.2.2.1, x.2.2.2.2.2.2.1, p1.2)
    (p4.1, p4.2)
   else
    if a0 = (10 : Int32) then
     let p6 := fnX4_combined (x.1, x.2.1, x.2.2.1, x.2.2.2.1, x.2.2.2.2.1, x.2.2.2.2.2.1, x.2.2.2.2.2.2.1, p1.2) a0 p1.1
     let p7 := fnX4_advance (((p6 &&& (68719476735 : Int64)), x.1.2), x.2.1, x.2.2.1, x.2.2.2.1, x.2.2.2.2.1, x.2.2.2.2.2.1, x.2.2.2.2.2.2.1, p1.2)
     (p7.1, p7.2)
    else
     if a0 = (11 : Int32) then
      let p9 := fnX4_combined (x.1, x.2.1, x.2.2.1, x.2.2.2.1, x.2.2.2.2.1, x.2.2.2.2.2.1, x.2.2.2.2.2.2.1, p1.2) a0 p1.1
      let p10 := fnX4_advance (((p9 &&& (68719476735 : Int64)), x.1.2), x.2.1, x.2.2.1, x.2.2.2.1, x.2.2.2.2.1, x.2.2.2.2.2.1, x.2.2.2.2.2.2.1, p1.2)
      (p10.1, p10.2)
     else
      if a0 = (12 : Int32) then
       let p12 := fnX4_field p1.1 (0 : Int32) (12 : Int32)
       let p13 := fnX4_advance (x.1, x.2.1, (upd x.2.2.1 ((a0 &&& (3 : Int32))).toNatClampNeg p12), x.2.2.2.1, x.2.2.2.2.1, x.2.2.2.2.2.1, x.2.2.2.2.2.2.1, p1.2)
       (p13.1, p13.2)
      else
       if a0 = (13 : Int32) then
        let p15 := fnX4_field p1.1 (0 : Int32) (12 : Int32)
        let p16 := fnX4_advance (x.1, x.2.1, (upd x.2.2.1 ((a0 &&& (3 : Int32))).toNatClampNeg p15), x.2.2.2.1, x.2.2.2.2.1, x.2.2.2.2.2.1, x.2.2.2.2.2.2.1, p1.2)
        (p16.1, p16.2)
       else
        if a0 = (14 : Int32) then
         let p18 := fnX4_field p1.1 (0 : Int32) (12 : Int32)
         let p19 := fnX4_advance (x.1, x.2.1, (upd x.2.2.1 ((a0 &&& (3 : Int32))).toNatClampNeg p18), x.2.2.2.1, x.2.2.2.2.1, x.2.2.2.2.2.1, x.2.2.2.2.2.2.1, p1.2)
         (p19.1, p19.2)
        else
         if a0 = (15 : Int32) then
          let p21 := fnX4_field p1.1 (0 : Int32) (12 : Int32)
          let p22 := fnX4_advance (x.1, x.2.1, (upd x.2.2.1 ((a0 &&& (3 : Int32))).toNatClampNeg p21), x.2.2.2.1, x.2.2.2.2.1, x.2.2.2.2.2.1, x.2.2.2.2.2.2.1, p1.2)
          (p22.1, p22.2)
         else
          let p23 := fnX4_combined (x.1, x.2.1, x.2.2.1, x.2.2.2.1, x.2.2.2.2.1, x.2.2.2.2.2.1, x.2.2.2.2.2.2.1, p1.2) a0 p1.1
          let p24 := fnX4_advance (((p23 &&& (68719476735 : Int64)), x.1.2), x.2.1, x.2.2.1, x.2.2.2.1, x.2.2.2.2.1, x.2.2.2.2.2.1, x.2.2.2.2.2.2.1, p1.2)
          (p24.1, p24.2)
  else
   let p25 := fnX4_faultOf p1.1
   (p25, (x.1, x.2.1, x.2.2.1, x.2.2.2.1, x.2.2.2.2.1, x.2.2.2.2.2.1, x.2.2.2.2.2.2.1, p1.2))
abbrev ivX4_loadP (z : Int32 × TR) : Prop := i4 z.1 ∧ iR z.2
set_option maxRecDepth 100000 in
set_option maxHeartbeats 4000000 in
theorem ivX4_load (x : TR) (a0 : Int32) (hI : iR x) : ivX4_loadP (fnX4_load x a0) := by
  unfold fnX4_load
  try dsimp only
  have j1 : ivX3_readP (fnX3_read x.2.2.2.2.2.2.2 x.2.2.2.2.2.1 (0 : Int32)) := ivX3_read x.2.2.2.2.2.2.2 x.2.2.2.2.2.1 (0 : Int32) hI.2.2.2.2.2.2.2 hI.2.2.2.2.2.1
  generalize fnX3_read x.2.2.2.2.2.2.2 x.2.2.2.2.2.1 (0 : Int32) = p1 at j1 ⊢
  refine iteI (fun h2 => ?_) (fun h2 => ?_)
  · refine iteI (fun h3 => ?_) (fun h3 => ?_)
    · have j4 : ivX4_advanceP (fnX4_advance ((x.1.1, p1.1), x.2.1, x.2.2.1, x.2.2.2.1, x.2.2.2.2.1, x.2.2.2.2.2.1, x.2.2.2.2.2.2.1, p1.2)) := ivX4_advance ((x.1.1, p1.1), x.2.1, x.2.2.1, x.2.2.2.1, x.2.2.2.2.1, x.2.2.2.2.2.1, x.2.2.2.2.2.2.1, p1.2) ⟨⟨hI.1.1, (rdI j1.1 (Int64.not_lt.mpr h2))⟩, hI.2.1, hI.2.2.1, hI.2.2.2.1, hI.2.2.2.2.1, hI.2.2.2.2.2.1, hI.2.2.2.2.2.2.1, j1.2⟩
      generalize fnX4_advance ((x.1.1, p1.1), x.2.1, x.2.2.1, x.2.2.2.1, x.2.2.2.2.1, x.2.2.2.2.2.1, x.2.2.2.2.2.2.1, p1.2) = p4 at j4 ⊢
      exact ⟨j4.1, j4.2⟩
    · refine iteI (fun h5 => ?_) (fun h5 => ?_)
      · generalize fnX4_combined (x.1, x.2.1, x.2.2.1, x.2.2.2.1, x.2.2.2.2.1, x.2.2.2.2.2.1, x.2.2.2.2.2.2.1, p1.2) a0 p1.1 = p6
        have j7 : ivX4_advanceP (fnX4_advance (((p6 &&& (68719476735 : Int64)), x.1.2), x.2.1, x.2.2.1, x.2.2.2.1, x.2.2.2.2.1, x.2.2.2.2.2.1, x.2.2.2.2.2.2.1, p1.2)) := ivX4_advance (((p6 &&& (68719476735 : Int64)), x.1.2), x.2.1, x.2.2.1, x.2.2.2.1, x.2.2.2.2.1, x.2.2.2.2.2.1, x.2.2.2.2.2.2.1, p1.2) ⟨⟨(mkW _), hI.1.2⟩, hI.2.1, hI.2.2.1, hI.2.2.2.1, hI.2.2.2.2.1, hI.2.2.2.2.2.1, hI.2.2.2.2.2.2.1, j1.2⟩
        generalize fnX4_advance (((p6 &&& (68719476735 : Int64)), x.1.2), x.2.1, x.2.2.1, x.2.2.2.1, x.2.2.2.2.1, x.2.2.2.2.2.1, x.2.2.2.2.2.2.1, p1.2) = p7 at j7 ⊢
        exact ⟨j7.1, j7.2⟩
      · refine iteI (fun h8 => ?_) (fun h8 => ?_)
        · generalize fnX4_combined (x.1, x.2.1, x.2.2.1, x.2.2.2.1, x.2.2.2.2.1, x.2.2.2.2.2.1, x.2.2.2.2.2.2.1, p1.2) a0 p1.1 = p9
          have j10 : ivX4_advanceP (fnX4_advance (((p9 &&& (68719476735 : Int64)), x.1.2), x.2.1, x.2.2.1, x.2.2.2.1, x.2.2.2.2.1, x.2.2.2.2.2.1, x.2.2.2.2.2.2.1, p1.2)) := ivX4_advance (((p9 &&& (68719476735 : Int64)), x.1.2), x.2.1, x.2.2.1, x.2.2.2.1, x.2.2.2.2.1, x.2.2.2.2.2.1, x.2.2.2.2.2.2.1, p1.2) ⟨⟨(mkW _), hI.1.2⟩, hI.2.1, hI.2.2.1, hI.2.2.2.1, hI.2.2.2.2.1, hI.2.2.2.2.2.1, hI.2.2.2.2.2.2.1, j1.2⟩
          generalize fnX4_advance (((p9 &&& (68719476735 : Int64)), x.1.2), x.2.1, x.2.2.1, x.2.2.2.1, x.2.2.2.2.1, x.2.2.2.2.2.1, x.2.2.2.2.2.2.1, p1.2) = p10 at j10 ⊢
          exact ⟨j10.1, j10.2⟩
        · refine iteI (fun h11 => ?_) (fun h11 => ?_)
          · have j12 : i12 (fnX4_field p1.1 (0 : Int32) (12 : Int32)) := (f12X p1.1 (0 : Int32))
            generalize fnX4_field p1.1 (0 : Int32) (12 : Int32) = p12 at j12 ⊢
            have j13 : ivX4_advanceP (fnX4_advance (x.1, x.2.1, (upd x.2.2.1 ((a0 &&& (3 : Int32))).toNatClampNeg p12), x.2.2.2.1, x.2.2.2.2.1, x.2.2.2.2.2.1, x.2.2.2.2.2.2.1, p1.2)) := ivX4_advance (x.1, x.2.1, (upd x.2.2.1 ((a0 &&& (3 : Int32))).toNatClampNeg p12), x.2.2.2.1, x.2.2.2.2.1, x.2.2.2.2.2.1, x.2.2.2.2.2.2.1, p1.2) ⟨hI.1, hI.2.1, (up12 hI.2.2.1 j12), hI.2.2.2.1, hI.2.2.2.2.1, hI.2.2.2.2.2.1, hI.2.2.2.2.2.2.1, j1.2⟩
            generalize fnX4_advance (x.1, x.2.1, (upd x.2.2.1 ((a0 &&& (3 : Int32))).toNatClampNeg p12), x.2.2.2.1, x.2.2.2.2.1, x.2.2.2.2.2.1, x.2.2.2.2.2.2.1, p1.2) = p13 at j13 ⊢
            exact ⟨j13.1, j13.2⟩
          · refine iteI (fun h14 => ?_) (fun h14 => ?_)
            · have j15 : i12 (fnX4_field p1.1 (0 : Int32) (12 : Int32)) := (f12X p1.1 (0 : Int32))
              generalize fnX4_field p1.1 (0 : Int32) (12 : Int32) = p15 at j15 ⊢
              have j16 : ivX4_advanceP (fnX4_advance (x.1, x.2.1, (upd x.2.2.1 ((a0 &&& (3 : Int32))).toNatClampNeg p15), x.2.2.2.1, x.2.2.2.2.1, x.2.2.2.2.2.1, x.2.2.2.2.2.2.1, p1.2)) := ivX4_advance (x.1, x.2.1, (upd x.2.2.1 ((a0 &&& (3 : Int32))).toNatClampNeg p15), x.2.2.2.1, x.2.2.2.2.1, x.2.2.2.2.2.1, x.2.2.2.2.2.2.1, p1.2) ⟨hI.1, hI.2.1, (up12 hI.2.2.1 j15), hI.2.2.2.1, hI.2.2.2.2.1, hI.2.2.2.2.2.1, hI.2.2.2.2.2.2.1, j1.2⟩
              generalize fnX4_advance (x.1, x.2.1, (upd x.2.2.1 ((a0 &&& (3 : Int32))).toNatClampNeg p15), x.2.2.2.1, x.2.2.2.2.1, x.2.2.2.2.2.1, x.2.2.2.2.2.2.1, p1.2) = p16 at j16 ⊢
              exact ⟨j16.1, j16.2⟩
            · refine iteI (fun h17 => ?_) (fun h17 => ?_)
              · have j18 : i12 (fnX4_field p1.1 (0 : Int32) (12 : Int32)) := (f12X p1.1 (0 : Int32))
                generalize fnX4_field p1.1 (0 : Int32) (12 : Int32) = p18 at j18 ⊢
                have j19 : ivX4_advanceP (fnX4_advance (x.1, x.2.1, (upd x.2.2.1 ((a0 &&& (3 : Int32))).toNatClampNeg p18), x.2.2.2.1, x.2.2.2.2.1, x.2.2.2.2.2.1, x.2.2.2.2.2.2.1, p1.2)) := ivX4_advance (x.1, x.2.1, (upd x.2.2.1 ((a0 &&& (3 : Int32))).toNatClampNeg p18), x.2.2.2.1, x.2.2.2.2.1, x.2.2.2.2.2.1, x.2.2.2.2.2.2.1, p1.2) ⟨hI.1, hI.2.1, (up12 hI.2.2.1 j18), hI.2.2.2.1, hI.2.2.2.2.1, hI.2.2.2.2.2.1, hI.2.2.2.2.2.2.1, j1.2⟩
                generalize fnX4_advance (x.1, x.2.1, (upd x.2.2.1 ((a0 &&& (3 : Int32))).toNatClampNeg p18), x.2.2.2.1, x.2.2.2.2.1, x.2.2.2.2.2.1, x.2.2.2.2.2.2.1, p1.2) = p19 at j19 ⊢
                exact ⟨j19.1, j19.2⟩
              · refine iteI (fun h20 => ?_) (fun h20 => ?_)
                · have j21 : i12 (fnX4_field p1.1 (0 : Int32) (12 : Int32)) := (f12X p1.1 (0 : Int32))
                  generalize fnX4_field p1.1 (0 : Int32) (12 : Int32) = p21 at j21 ⊢
                  have j22 : ivX4_advanceP (fnX4_advance (x.1, x.2.1, (upd x.2.2.1 ((a0 &&& (3 : Int32))).toNatClampNeg p21), x.2.2.2.1, x.2.2.2.2.1, x.2.2.2.2.2.1, x.2.2.2.2.2.2.1, p1.2)) := ivX4_advance (x.1, x.2.1, (upd x.2.2.1 ((a0 &&& (3 : Int32))).toNatClampNeg p21), x.2.2.2.1, x.2.2.2.2.1, x.2.2.2.2.2.1, x.2.2.2.2.2.2.1, p1.2) ⟨hI.1, hI.2.1, (up12 hI.2.2.1 j21), hI.2.2.2.1, hI.2.2.2.2.1, hI.2.2.2.2.2.1, hI.2.2.2.2.2.2.1, j1.2⟩
                  generalize fnX4_advance (x.1, x.2.1, (upd x.2.2.1 ((a0 &&& (3 : Int32))).toNatClampNeg p21), x.2.2.2.1, x.2.2.2.2.1, x.2.2.2.2.2.1, x.2.2.2.2.2.2.1, p1.2) = p22 at j22 ⊢
                  exact ⟨j22.1, j22.2⟩
                · generalize fnX4_combined (x.1, x.2.1, x.2.2.1, x.2.2.2.1, x.2.2.2.2.1, x.2.2.2.2.2.1, x.2.2.2.2.2.2.1, p1.2) a0 p1.1 = p23
                  have j24 : ivX4_advanceP (fnX4_advance (((p23 &&& (68719476735 : Int64)), x.1.2), x.2.1, x.2.2.1, x.2.2.2.1, x.2.2.2.2.1, x.2.2.2.2.2.1, x.2.2.2.2.2.2.1, p1.2)) := ivX4_advance (((p23 &&& (68719476735 : Int64)), x.1.2), x.2.1, x.2.2.1, x.2.2.2.1, x.2.2.2.2.1, x.2.2.2.2.2.1, x.2.2.2.2.2.2.1, p1.2) ⟨⟨(mkW _), hI.1.2⟩, hI.2.1, hI.2.2.1, hI.2.2.2.1, hI.2.2.2.2.1, hI.2.2.2.2.2.1, hI.2.2.2.2.2.2.1, j1.2⟩
                  generalize fnX4_advance (((p23 &&& (68719476735 : Int64)), x.1.2), x.2.1, x.2.2.1, x.2.2.2.1, x.2.2.2.2.1, x.2.2.2.2.2.1, x.2.2.2.2.2.2.1, p1.2) = p24 at j24 ⊢
                  exact ⟨j24.1, j24.2⟩
  · have j25 : i4 (fnX4_faultOf p1.1) := (fltI j1.1 (Int64.not_le.mp h2))
    generalize fnX4_faultOf p1.1 = p25 at j25 ⊢
    exact ⟨j25, ⟨hI.1, hI.2.1, hI.2.2.1, hI.2.2.2.1, hI.2.2.2.2.1, hI.2.2.2.2.2.1, hI.2.2.2.2.2.2.1, j1.2⟩⟩
set_option maxRecDepth 100000 in
set_option maxHeartbeats 4000000 in
theorem okX4_load (l : Launch) (D : va_G) (cI cJ cP : ClassId) (ad : Nat → Nat) (sz : Nat) (x : TR) (a0 : Int32) (hI : iR x) : Met l yX4_load (Cond.code yX4_load cX4_load 4 (some .int) :: gG) { frames := 4, cells := 0, slots := 0, locals := 105 } (va_Pc [.ref (ad 0), .int a0] (PRE D (tz cI cJ cP) sz (wR cI cJ cP ad x))) (va_Qi (fun (r : Int32) (u : TR) => (r, u) = fnX4_load x a0) (AT D (tz cI cJ cP) (va_A (wR cI cJ cP ad x) sz) (fun (u : TR) => (wR cI cJ cP ad u))) (va_A (wR cI cJ cP ad x) sz)) 0 0 (va_A (wR cI cJ cP ad x) sz) := by
  refine mo (QA := fun A => va_Qi (fun (r : Int32) (u : TR) => (r, u) = fnX4_load x a0) (AT D (tz cI cJ cP) A (fun (u : TR) => (wR cI cJ cP ad u))) A) (by decide) (Nat.le_of_ble_eq_true rfl) ?_
  intro p e s m below meth c A ls H hx hb hr hml hown hG hlocks hnm hA hS hP hK hD hl hN
  have hown : s.vm.findClass RX4 = some m.cls := hown
  have hl : lv_has ls 4 [(0, .ref (ad 0)), (1, .int a0)] := hl
  refine lv_aload_n hx hb dX4_load_0 rfl (lv_at hl 0 rfl) ?_
  refine va_get (D := D) (ci := 4) (v := .ref (ad 1)) hx hb hG inX4 hown hK hP 0 rfl rfl 0 (by decide) (hG _ kw104) (fun _ h9 => h9) rfl dX4_load_1 ?_
  refine lv_aload_n hx hb dX4_load_4 rfl (lv_at hl 0 rfl) ?_
  refine va_get (D := D) (ci := 4) (v := .ref (ad 12)) hx hb hG inX4 hown hK hP 0 rfl rfl 6 (by decide) (hG _ kw124) (fun _ h9 => h9) rfl dX4_load_5 ?_
  refine lv_iconst (v := 0) hx hb dX4_load_8 (by decide) ?_
  refine kVl (As := [.ref (ad 12), .int ((0 : Int32))]) (rest := []) (W' := (fun u1 => (wR cI cJ cP ad (x.1, x.2.1, x.2.2.1, x.2.2.2.1, x.2.2.2.2.1, x.2.2.2.2.2.1, x.2.2.2.2.2.2.1, u1)))) hx hb hml hown hG hl (okX3_read l D cI cJ cP (fun i => ad (i + 1)) H.size x.2.2.2.2.2.2.2 x.2.2.2.2.2.1 (0 : Int32) hI.2.2.2.2.2.2.2 hI.2.2.2.2.2.1) (cV 2 hG kw125 kw126 kw127 kw128 kw60 hdX3_read ⟨by decide, by decide⟩) 1 3 rfl rfl hK hP hD hS hA hN [1, 2, 3, 4, 5, 6, 7, 8, 9, 10, 11, 12] rfl rfl rfl (fun _ => rfl) (fun _ => rfl) rfl rfl (Nat.le_of_ble_eq_true rfl) dX4_load_9 ⟨Nat.zero_le _, Nat.zero_le _⟩ (fun r1 u1 q1 H locs hP hD hS => ?_)
  have j1 : ivX3_readP (r1, u1) := by rw [q1]; exact ivX3_read x.2.2.2.2.2.2.2 x.2.2.2.2.2.1 (0 : Int32) hI.2.2.2.2.2.2.2 hI.2.2.2.2.2.1
  refine lv_lstore_n (lv' := [(2, .long (r1)), (0, .ref (ad 0)), (1, .int (a0))]) hx hb dX4_load_12 rfl hl (by decide) rfl (fun ls hl => ?_)
  refine lv_lload_n hx hb dX4_load_13 rfl (lv_at hl 0 rfl) ?_
  refine lv_lconst (v := 0) hx hb dX4_load_14 (by decide) ?_
  refine lq_ge (tgt := 24) hx hb dX4_load_15 dX4_load_16 (by decide) (fun h2 => ?_) (fun h2 => ?_)
  · refine lv_iload_n hx hb dX4_load_24 rfl (lv_at hl 2 rfl) ?_
    by_cases h3 : a0 = (9 : Int32)
    · refine lv_tableIn (off := 61) (tgt := 86) hx hb dX4_load_25 (by rw [h3]; decide) (by rw [h3]; decide) (by rw [h3]; decide) (by decide) ?_
      refine lv_aload_n hx hb dX4_load_86 rfl (lv_at hl 1 rfl) ?_
      refine lv_lload_n hx hb dX4_load_87 rfl (lv_at hl 0 rfl) ?_
      refine pu (D := D) (ci := 4) (v := .long (r1)) (ty := .long) (W' := (wR cI cJ cP ad ((x.1.1, r1), x.2.1, x.2.2.1, x.2.2.2.1, x.2.2.2.2.1, x.2.2.2.2.2.1, x.2.2.2.2.2.2.1, u1))) hx hb hG inX4 tyX4 tyokX4 nmX4 hown hK hP hD hS 0 rfl rfl 2 (by decide) (hG _ kw91) (fun _ h9 => h9) rfl (by decide +kernel) rfl rfl (Nat.le_of_ble_eq_true rfl) dX4_load_88 rfl (fun H locs hP hD hS => ?_)
      refine lv_goto (tgt := 108) hx hb dX4_load_91 (by decide) ?_
      refine lv_aload_n hx hb dX4_load_108 rfl (lv_at hl 1 rfl) ?_
      refine kFi (As := []) (rest := []) hx hb hml hown hG hl (okX4_advance l D cI cJ cP ad H.size ((x.1.1, r1), x.2.1, x.2.2.1, x.2.2.2.1, x.2.2.2.2.1, x.2.2.2.2.2.1, x.2.2.2.2.2.2.1, u1) ⟨⟨hI.1.1, (rdI j1.1 (Int64.not_lt.mpr h2))⟩, hI.2.1, hI.2.2.1, hI.2.2.2.1, hI.2.2.2.2.1, hI.2.2.2.2.2.1, hI.2.2.2.2.2.2.1, j1.2⟩) (cV 0 hG kw92 kw93 kw94 kw95 kw5 hdX4_advance ⟨by decide, by decide⟩) 0 4 rfl rfl hK hP hD hS hA hN rfl rfl (Nat.le_of_ble_eq_true rfl) dX4_load_109 ⟨Nat.zero_le _, Nat.zero_le _⟩ (fun r4 u4 q4 H locs hP hD hS => ?_)
      have j4 : ivX4_advanceP (r4, u4) := by rw [q4]; exact ivX4_advance ((x.1.1, r1), x.2.1, x.2.2.1, x.2.2.2.1, x.2.2.2.2.1, x.2.2.2.2.2.1, x.2.2.2.2.2.2.1, u1) ⟨⟨hI.1.1, (rdI j1.1 (Int64.not_lt.mpr h2))⟩, hI.2.1, hI.2.2.1, hI.2.2.2.1, hI.2.2.2.2.1, hI.2.2.2.2.2.1, hI.2.2.2.2.2.2.1, j1.2⟩
      exact reti (u := u4) hx hb hr hlocks hK hP hD hS dX4_load_112 (by unfold fnX4_load; rw [← q1]; (try dsimp only); rw [if_pos h2]; rw [if_pos h3]; rw [← q4]; (try dsimp only); (try exact rfl))
    by_cases h5 : a0 = (10 : Int32)
    · refine lv_tableIn (off := 69) (tgt := 94) hx hb dX4_load_25 (by rw [h5]; decide) (by rw [h5]; decide) (by rw [h5]; decide) (by decide) ?_
      refine lv_aload_n hx hb dX4_load_94 rfl (lv_at hl 1 rfl) ?_
      refine lv_aload_n hx hb dX4_load_95 rfl (lv_at hl 1 rfl) ?_
      refine lv_iload_n hx hb dX4_load_96 rfl (lv_at hl 2 rfl) ?_
      refine lv_lload_n hx hb dX4_load_97 rfl (lv_at hl 0 rfl) ?_
      refine kFl (As := [.int (a0), .long (r1)]) (rest := [.ref (ad 0)]) hx hb hml hown hG hl (okX4_combined l D cI cJ cP ad H.size (x.1, x.2.1, x.2.2.1, x.2.2.2.1, x.2.2.2.2.1, x.2.2.2.2.2.1, x.2.2.2.2.2.2.1, u1) a0 r1 ⟨hI.1, hI.2.1, hI.2.2.1, hI.2.2.2.1, hI.2.2.2.2.1, hI.2.2.2.2.2.1, hI.2.2.2.2.2.2.1, j1.2⟩) (cV 2 hG kw129 kw130 kw131 kw132 kw5 hdX4_combined ⟨by decide, by decide⟩) 0 4 rfl rfl hK hP hD hS hA hN rfl rfl (Nat.le_of_ble_eq_true rfl) dX4_load_98 ⟨Nat.zero_le _, Nat.zero_le _⟩ (fun r6 _ q6 H locs hP hD hS => ?_)
      refine lv_ldc2 (v := 68719476735) hx hb hown (hG _ kw133) dX4_load_101 ?_
      refine lv_land hx hb dX4_load_104 ?_
      refine pu (D := D) (ci := 4) (v := .long ((r6 &&& (68719476735 : Int64)))) (ty := .long) (W' := (wR cI cJ cP ad (((r6 &&& (68719476735 : Int64)), x.1.2), x.2.1, x.2.2.1, x.2.2.2.1, x.2.2.2.2.1, x.2.2.2.2.2.1, x.2.2.2.2.2.2.1, u1))) hx hb hG inX4 tyX4 tyokX4 nmX4 hown hK hP hD hS 0 rfl rfl 1 (by decide) (hG _ kw90) (fun _ h9 => h9) rfl (by decide +kernel) rfl rfl (Nat.le_of_ble_eq_true rfl) dX4_load_105 rfl (fun H locs hP hD hS => ?_)
      refine lv_aload_n hx hb dX4_load_108 rfl (lv_at hl 1 rfl) ?_
      refine kFi (As := []) (rest := []) hx hb hml hown hG hl (okX4_advance l D cI cJ cP ad H.size (((r6 &&& (68719476735 : Int64)), x.1.2), x.2.1, x.2.2.1, x.2.2.2.1, x.2.2.2.2.1, x.2.2.2.2.2.1, x.2.2.2.2.2.2.1, u1) ⟨⟨(mkW _), hI.1.2⟩, hI.2.1, hI.2.2.1, hI.2.2.2.1, hI.2.2.2.2.1, hI.2.2.2.2.2.1, hI.2.2.2.2.2.2.1, j1.2⟩) (cV 0 hG kw92 kw93 kw94 kw95 kw5 hdX4_advance ⟨by decide, by decide⟩) 0 4 rfl rfl hK hP hD hS hA hN rfl rfl (Nat.le_of_ble_eq_true rfl) dX4_load_109 ⟨Nat.zero_le _, Nat.zero_le _⟩ (fun r7 u7 q7 H locs hP hD hS => ?_)
      have j7 : ivX4_advanceP (r7, u7) := by rw [q7]; exact ivX4_advance (((r6 &&& (68719476735 : Int64)), x.1.2), x.2.1, x.2.2.1, x.2.2.2.1, x.2.2.2.2.1, x.2.2.2.2.2.1, x.2.2.2.2.2.2.1, u1) ⟨⟨(mkW _), hI.1.2⟩, hI.2.1, hI.2.2.1, hI.2.2.2.1, hI.2.2.2.2.1, hI.2.2.2.2.2.1, hI.2.2.2.2.2.2.1, j1.2⟩
      exact reti (u := u7) hx hb hr hlocks hK hP hD hS dX4_load_112 (by unfold fnX4_load; rw [← q1]; (try dsimp only); rw [if_pos h2]; rw [if_neg h3]; rw [if_pos h5]; rw [← q6]; (try dsimp only); rw [← q7]; (try dsimp only); (try exact rfl))
    by_cases h8 : a0 = (11 : Int32)
    · refine lv_tableIn (off := 69) (tgt := 94) hx hb dX4_load_25 (by rw [h8]; decide) (by rw [h8]; decide) (by rw [h8]; decide) (by decide) ?_
      refine lv_aload_n hx hb dX4_load_94 rfl (lv_at hl 1 rfl) ?_
      refine lv_aload_n hx hb dX4_load_95 rfl (lv_at hl 1 rfl) ?_
      refine lv_iload_n hx hb dX4_load_96 rfl (lv_at hl 2 rfl) ?_
      refine lv_lload_n hx hb dX4_load_97 rfl (lv_at hl 0 rfl) ?_
      refine kFl (As := [.int (a0), .long (r1)]) (rest := [.ref (ad 0)]) hx hb hml hown hG hl (okX4_combined l D cI cJ cP ad H.size (x.1, x.2.1, x.2.2.1, x.2.2.2.1, x.2.2.2.2.1, x.2.2.2.2.2.1, x.2.2.2.2.2.2.1, u1) a0 r1 ⟨hI.1, hI.2.1, hI.2.2.1, hI.2.2.2.1, hI.2.2.2.2.1, hI.2.2.2.2.2.1, hI.2.2.2.2.2.2.1, j1.2⟩) (cV 2 hG kw129 kw130 kw131 kw132 kw5 hdX4_combined ⟨by decide, by decide⟩) 0 4 rfl rfl hK hP hD hS hA hN rfl rfl (Nat.le_of_ble_eq_true rfl) dX4_load_98 ⟨Nat.zero_le _, Nat.zero_le _⟩ (fun r9 _ q9 H locs hP hD hS => ?_)
      refine lv_ldc2 (v := 68719476735) hx hb hown (hG _ kw133) dX4_load_101 ?_
      refine lv_land hx hb dX4_load_104 ?_
      refine pu (D := D) (ci := 4) (v := .long ((r9 &&& (68719476735 : Int64)))) (ty := .long) (W' := (wR cI cJ cP ad (((r9 &&& (68719476735 : Int64)), x.1.2), x.2.1, x.2.2.1, x.2.2.2.1, x.2.2.2.2.1, x.2.2.2.2.2.1, x.2.2.2.2.2.2.1, u1))) hx hb hG inX4 tyX4 tyokX4 nmX4 hown hK hP hD hS 0 rfl rfl 1 (by decide) (hG _ kw90) (fun _ h9 => h9) rfl (by decide +kernel) rfl rfl (Nat.le_of_ble_eq_true rfl) dX4_load_105 rfl (fun H locs hP hD hS => ?_)
      refine lv_aload_n hx hb dX4_load_108 rfl (lv_at hl 1 rfl) ?_
      refine kFi (As := []) (rest := []) hx hb hml hown hG hl (okX4_advance l D cI cJ cP ad H.size (((r9 &&& (68719476735 : Int64)), x.1.2), x.2.1, x.2.2.1, x.2.2.2.1, x.2.2.2.2.1, x.2.2.2.2.2.1, x.2.2.2.2.2.2.1, u1) ⟨⟨(mkW _), hI.1.2⟩, hI.2.1, hI.2.2.1, hI.2.2.2.1, hI.2.2.2.2.1, hI.2.2.2.2.2.1, hI.2.2.2.2.2.2.1, j1.2⟩) (cV 0 hG kw92 kw93 kw94 kw95 kw5 hdX4_advance ⟨by decide, by decide⟩) 0 4 rfl rfl hK hP hD hS hA hN rfl rfl (Nat.le_of_ble_eq_true rfl) dX4_load_109 ⟨Nat.zero_le _, Nat.zero_le _⟩ (fun r10 u10 q10 H locs hP hD hS => ?_)
      have j10 : ivX4_advanceP (r10, u10) := by rw [q10]; exact ivX4_advance (((r9 &&& (68719476735 : Int64)), x.1.2), x.2.1, x.2.2.1, x.2.2.2.1, x.2.2.2.2.1, x.2.2.2.2.2.1, x.2.2.2.2.2.2.1, u1) ⟨⟨(mkW _), hI.1.2⟩, hI.2.1, hI.2.2.1, hI.2.2.2.1, hI.2.2.2.2.1, hI.2.2.2.2.2.1, hI.2.2.2.2.2.2.1, j1.2⟩
      exact reti (u := u10) hx hb hr hlocks hK hP hD hS dX4_load_112 (by unfold fnX4_load; rw [← q1]; (try dsimp only); rw [if_pos h2]; rw [if_neg h3]; rw [if_neg h5]; rw [if_pos h8]; rw [← q9]; (try dsimp only); rw [← q10]; (try dsimp only); (try exact rfl))
    by_cases h11 : a0 = (12 : Int32)
    · refine lv_tableIn (off := 43) (tgt := 68) hx hb dX4_load_25 (by rw [h11]; decide) (by rw [h11]; decide) (by rw [h11]; decide) (by decide) ?_
      refine lv_aload_n hx hb dX4_load_68 rfl (lv_at hl 1 rfl) ?_
      refine va_get (D := D) (ci := 4) (v := .ref (ad 13)) hx hb hG inX4 hown hK hP 0 rfl rfl 3 (by decide) (hG _ kw134) (fun _ h9 => h9) rfl dX4_load_69 ?_
      refine lv_iload_n hx hb dX4_load_72 rfl (lv_at hl 2 rfl) ?_
      refine lv_iconst (v := 3) hx hb dX4_load_73 (by decide) ?_
      refine lv_iand hx hb dX4_load_74 ?_
      refine lv_lload_n hx hb dX4_load_75 rfl (lv_at hl 0 rfl) ?_
      refine lv_iconst (v := 0) hx hb dX4_load_76 (by decide) ?_
      refine lv_bipush (v := 12) hx hb dX4_load_77 (by decide) ?_
      refine k0Si (As := [.long (r1), .int ((0 : Int32)), .int ((12 : Int32))]) (rest := [.int ((a0 &&& (3 : Int32))), .ref (ad 13)]) hx hb hml hown hG hl (okX4_field l D cI cJ cP  H.size r1 (0 : Int32) (12 : Int32) ) (cS 3 hG kw4 kw135 kw6 kw5 hdX4_field ⟨by decide, by decide⟩) hK hP hD hS hA hN rfl rfl (Nat.le_of_ble_eq_true rfl) dX4_load_79 ⟨Nat.zero_le _, Nat.zero_le _⟩ (fun r12 q12 H locs hP hD hS => ?_)
      have j12 : i12 r12 := by rw [q12]; exact (f12X r1 (0 : Int32))
      refine si (D := D) (j := ((a0 &&& (3 : Int32))).toNatClampNeg) (f := x.2.2.1) (x := r12) (W' := (wR cI cJ cP ad (x.1, x.2.1, (upd x.2.2.1 ((a0 &&& (3 : Int32))).toNatClampNeg r12), x.2.2.2.1, x.2.2.2.2.1, x.2.2.2.2.2.1, x.2.2.2.2.2.2.1, u1))) hx hb hK hP hD hS 13 0 rfl rfl (in2 (mk2 _)) rfl dX4_load_82 rfl (fun H locs hP hD hS => ?_)
      refine lv_goto (tgt := 108) hx hb dX4_load_83 (by decide) ?_
      refine lv_aload_n hx hb dX4_load_108 rfl (lv_at hl 1 rfl) ?_
      refine kFi (As := []) (rest := []) hx hb hml hown hG hl (okX4_advance l D cI cJ cP ad H.size (x.1, x.2.1, (upd x.2.2.1 ((a0 &&& (3 : Int32))).toNatClampNeg r12), x.2.2.2.1, x.2.2.2.2.1, x.2.2.2.2.2.1, x.2.2.2.2.2.2.1, u1) ⟨hI.1, hI.2.1, (up12 hI.2.2.1 j12), hI.2.2.2.1, hI.2.2.2.2.1, hI.2.2.2.2.2.1, hI.2.2.2.2.2.2.1, j1.2⟩) (cV 0 hG kw92 kw93 kw94 kw95 kw5 hdX4_advance ⟨by decide, by decide⟩) 0 4 rfl rfl hK hP hD hS hA hN rfl rfl (Nat.le_of_ble_eq_true rfl) dX4_load_109 ⟨Nat.zero_le _, Nat.zero_le _⟩ (fun r13 u13 q13 H locs hP hD hS => ?_)
      have j13 : ivX4_advanceP (r13, u13) := by rw [q13]; exact ivX4_advance (x.1, x.2.1, (upd x.2.2.1 ((a0 &&& (3 : Int32))).toNatClampNeg r12), x.2.2.2.1, x.2.2.2.2.1, x.2.2.2.2.2.1, x.2.2.2.2.2.2.1, u1) ⟨hI.1, hI.2.1, (up12 hI.2.2.1 j12), hI.2.2.2.1, hI.2.2.2.2.1, hI.2.2.2.2.2.1, hI.2.2.2.2.2.2.1, j1.2⟩
      exact reti (u := u13) hx hb hr hlocks hK hP hD hS dX4_load_112 (by unfold fnX4_load; rw [← q1]; (try dsimp only); rw [if_pos h2]; rw [if_neg h3]; rw [if_neg h5]; rw [if_neg h8]; rw [if_pos h11]; rw [← q12]; (try dsimp only); rw [← q13]; (try dsimp only); (try exact rfl))
    by_cases h14 : a0 = (13 : Int32)
    · refine lv_tableIn (off := 43) (tgt := 68) hx hb dX4_load_25 (by rw [h14]; decide) (by rw [h14]; decide) (by rw [h14]; decide) (by decide) ?_
      refine lv_aload_n hx hb dX4_load_68 rfl (lv_at hl 1 rfl) ?_
      refine va_get (D := D) (ci := 4) (v := .ref (ad 13)) hx hb hG inX4 hown hK hP 0 rfl rfl 3 (by decide) (hG _ kw134) (fun _ h9 => h9) rfl dX4_load_69 ?_
      refine lv_iload_n hx hb dX4_load_72 rfl (lv_at hl 2 rfl) ?_
      refine lv_iconst (v := 3) hx hb dX4_load_73 (by decide) ?_
      refine lv_iand hx hb dX4_load_74 ?_
      refine lv_lload_n hx hb dX4_load_75 rfl (lv_at hl 0 rfl) ?_
      refine lv_iconst (v := 0) hx hb dX4_load_76 (by decide) ?_
      refine lv_bipush (v := 12) hx hb dX4_load_77 (by decide) ?_
      refine k0Si (As := [.long (r1), .int ((0 : Int32)), .int ((12 : Int32))]) (rest := [.int ((a0 &&& (3 : Int32))), .ref (ad 13)]) hx hb hml hown hG hl (okX4_field l D cI cJ cP  H.size r1 (0 : Int32) (12 : Int32) ) (cS 3 hG kw4 kw135 kw6 kw5 hdX4_field ⟨by decide, by decide⟩) hK hP hD hS hA hN rfl rfl (Nat.le_of_ble_eq_true rfl) dX4_load_79 ⟨Nat.zero_le _, Nat.zero_le _⟩ (fun r15 q15 H locs hP hD hS => ?_)
      have j15 : i12 r15 := by rw [q15]; exact (f12X r1 (0 : Int32))
      refine si (D := D) (j := ((a0 &&& (3 : Int32))).toNatClampNeg) (f := x.2.2.1) (x := r15) (W' := (wR cI cJ cP ad (x.1, x.2.1, (upd x.2.2.1 ((a0 &&& (3 : Int32))).toNatClampNeg r15), x.2.2.2.1, x.2.2.2.2.1, x.2.2.2.2.2.1, x.2.2.2.2.2.2.1, u1))) hx hb hK hP hD hS 13 0 rfl rfl (in2 (mk2 _)) rfl dX4_load_82 rfl (fun H locs hP hD hS => ?_)
      refine lv_goto (tgt := 108) hx hb dX4_load_83 (by decide) ?_
      refine lv_aload_n hx hb dX4_load_108 rfl (lv_at hl 1 rfl) ?_
      refine kFi (As := []) (rest := []) hx hb hml hown hG hl (okX4_advance l D cI cJ cP ad H.size (x.1, x.2.1, (upd x.2.2.1 ((a0 &&& (3 : Int32))).toNatClampNeg r15), x.2.2.2.1, x.2.2.2.2.1, x.2.2.2.2.2.1, x.2.2.2.2.2.2.1, u1) ⟨hI.1, hI.2.1, (up12 hI.2.2.1 j15), hI.2.2.2.1, hI.2.2.2.2.1, hI.2.2.2.2.2.1, hI.2.2.2.2.2.2.1, j1.2⟩) (cV 0 hG kw92 kw93 kw94 kw95 kw5 hdX4_advance ⟨by decide, by decide⟩) 0 4 rfl rfl hK hP hD hS hA hN rfl rfl (Nat.le_of_ble_eq_true rfl) dX4_load_109 ⟨Nat.zero_le _, Nat.zero_le _⟩ (fun r16 u16 q16 H locs hP hD hS => ?_)
      have j16 : ivX4_advanceP (r16, u16) := by rw [q16]; exact ivX4_advance (x.1, x.2.1, (upd x.2.2.1 ((a0 &&& (3 : Int32))).toNatClampNeg r15), x.2.2.2.1, x.2.2.2.2.1, x.2.2.2.2.2.1, x.2.2.2.2.2.2.1, u1) ⟨hI.1, hI.2.1, (up12 hI.2.2.1 j15), hI.2.2.2.1, hI.2.2.2.2.1, hI.2.2.2.2.2.1, hI.2.2.2.2.2.2.1, j1.2⟩
      exact reti (u := u16) hx hb hr hlocks hK hP hD hS dX4_load_112 (by unfold fnX4_load; rw [← q1]; (try dsimp only); rw [if_pos h2]; rw [if_neg h3]; rw [if_neg h5]; rw [if_neg h8]; rw [if_neg h11]; rw [if_pos h14]; rw [← q15]; (try dsimp only); rw [← q16]; (try dsimp only); (try exact rfl))
    by_cases h17 : a0 = (14 : Int32)
    · refine lv_tableIn (off := 43) (tgt := 68) hx hb dX4_load_25 (by rw [h17]; decide) (by rw [h17]; decide) (by rw [h17]; decide) (by decide) ?_
      refine lv_aload_n hx hb dX4_load_68 rfl (lv_at hl 1 rfl) ?_
      refine va_get (D := D) (ci := 4) (v := .ref (ad 13)) hx hb hG inX4 hown hK hP 0 rfl rfl 3 (by decide) (hG _ kw134) (fun _ h9 => h9) rfl dX4_load_69 ?_
      refine lv_iload_n hx hb dX4_load_72 rfl (lv_at hl 2 rfl) ?_
      refine lv_iconst (v := 3) hx hb dX4_load_73 (by decide) ?_
      refine lv_iand hx hb dX4_load_74 ?_
      refine lv_lload_n hx hb dX4_load_75 rfl (lv_at hl 0 rfl) ?_
      refine lv_iconst (v := 0) hx hb dX4_load_76 (by decide) ?_
      refine lv_bipush (v := 12) hx hb dX4_load_77 (by decide) ?_
      refine k0Si (As := [.long (r1), .int ((0 : Int32)), .int ((12 : Int32))]) (rest := [.int ((a0 &&& (3 : Int32))), .ref (ad 13)]) hx hb hml hown hG hl (okX4_field l D cI cJ cP  H.size r1 (0 : Int32) (12 : Int32) ) (cS 3 hG kw4 kw135 kw6 kw5 hdX4_field ⟨by decide, by decide⟩) hK hP hD hS hA hN rfl rfl (Nat.le_of_ble_eq_true rfl) dX4_load_79 ⟨Nat.zero_le _, Nat.zero_le _⟩ (fun r18 q18 H locs hP hD hS => ?_)
      have j18 : i12 r18 := by rw [q18]; exact (f12X r1 (0 : Int32))
      refine si (D := D) (j := ((a0 &&& (3 : Int32))).toNatClampNeg) (f := x.2.2.1) (x := r18) (W' := (wR cI cJ cP ad (x.1, x.2.1, (upd x.2.2.1 ((a0 &&& (3 : Int32))).toNatClampNeg r18), x.2.2.2.1, x.2.2.2.2.1, x.2.2.2.2.2.1, x.2.2.2.2.2.2.1, u1))) hx hb hK hP hD hS 13 0 rfl rfl (in2 (mk2 _)) rfl dX4_load_82 rfl (fun H locs hP hD hS => ?_)
      refine lv_goto (tgt := 108) hx hb dX4_load_83 (by decide) ?_
      refine lv_aload_n hx hb dX4_load_108 rfl (lv_at hl 1 rfl) ?_
      refine kFi (As := []) (rest := []) hx hb hml hown hG hl (okX4_advance l D cI cJ cP ad H.size (x.1, x.2.1, (upd x.2.2.1 ((a0 &&& (3 : Int32))).toNatClampNeg r18), x.2.2.2.1, x.2.2.2.2.1, x.2.2.2.2.2.1, x.2.2.2.2.2.2.1, u1) ⟨hI.1, hI.2.1, (up12 hI.2.2.1 j18), hI.2.2.2.1, hI.2.2.2.2.1, hI.2.2.2.2.2.1, hI.2.2.2.2.2.2.1, j1.2⟩) (cV 0 hG kw92 kw93 kw94 kw95 kw5 hdX4_advance ⟨by decide, by decide⟩) 0 4 rfl rfl hK hP hD hS hA hN rfl rfl (Nat.le_of_ble_eq_true rfl) dX4_load_109 ⟨Nat.zero_le _, Nat.zero_le _⟩ (fun r19 u19 q19 H locs hP hD hS => ?_)
      have j19 : ivX4_advanceP (r19, u19) := by rw [q19]; exact ivX4_advance (x.1, x.2.1, (upd x.2.2.1 ((a0 &&& (3 : Int32))).toNatClampNeg r18), x.2.2.2.1, x.2.2.2.2.1, x.2.2.2.2.2.1, x.2.2.2.2.2.2.1, u1) ⟨hI.1, hI.2.1, (up12 hI.2.2.1 j18), hI.2.2.2.1, hI.2.2.2.2.1, hI.2.2.2.2.2.1, hI.2.2.2.2.2.2.1, j1.2⟩
      exact reti (u := u19) hx hb hr hlocks hK hP hD hS dX4_load_112 (by unfold fnX4_load; rw [← q1]; (try dsimp only); rw [if_pos h2]; rw [if_neg h3]; rw [if_neg h5]; rw [if_neg h8]; rw [if_neg h11]; rw [if_neg h14]; rw [if_pos h17]; rw [← q18]; (try dsimp only); rw [← q19]; (try dsimp only); (try exact rfl))
    by_cases h20 : a0 = (15 : Int32)
    · refine lv_tableIn (off := 43) (tgt := 68) hx hb dX4_load_25 (by rw [h20]; decide) (by rw [h20]; decide) (by rw [h20]; decide) (by decide) ?_
      refine lv_aload_n hx hb dX4_load_68 rfl (lv_at hl 1 rfl) ?_
      refine va_get (D := D) (ci := 4) (v := .ref (ad 13)) hx hb hG inX4 hown hK hP 0 rfl rfl 3 (by decide) (hG _ kw134) (fun _ h9 => h9) rfl dX4_load_69 ?_
      refine lv_iload_n hx hb dX4_load_72 rfl (lv_at hl 2 rfl) ?_
      refine lv_iconst (v := 3) hx hb dX4_load_73 (by decide) ?_
      refine lv_iand hx hb dX4_load_74 ?_
      refine lv_lload_n hx hb dX4_load_75 rfl (lv_at hl 0 rfl) ?_
      refine lv_iconst (v := 0) hx hb dX4_load_76 (by decide) ?_
      refine lv_bipush (v := 12) hx hb dX4_load_77 (by decide) ?_
      refine k0Si (As := [.long (r1), .int ((0 : Int32)), .int ((12 : Int32))]) (rest := [.int ((a0 &&& (3 : Int32))), .ref (ad 13)]) hx hb hml hown hG hl (okX4_field l D cI cJ cP  H.size r1 (0 : Int32) (12 : Int32) ) (cS 3 hG kw4 kw135 kw6 kw5 hdX4_field ⟨by decide, by decide⟩) hK hP hD hS hA hN rfl rfl (Nat.le_of_ble_eq_true rfl) dX4_load_79 ⟨Nat.zero_le _, Nat.zero_le _⟩ (fun r21 q21 H locs hP hD hS => ?_)
      have j21 : i12 r21 := by rw [q21]; exact (f12X r1 (0 : Int32))
      refine si (D := D) (j := ((a0 &&& (3 : Int32))).toNatClampNeg) (f := x.2.2.1) (x := r21) (W' := (wR cI cJ cP ad (x.1, x.2.1, (upd x.2.2.1 ((a0 &&& (3 : Int32))).toNatClampNeg r21), x.2.2.2.1, x.2.2.2.2.1, x.2.2.2.2.2.1, x.2.2.2.2.2.2.1, u1))) hx hb hK hP hD hS 13 0 rfl rfl (in2 (mk2 _)) rfl dX4_load_82 rfl (fun H locs hP hD hS => ?_)
      refine lv_goto (tgt := 108) hx hb dX4_load_83 (by decide) ?_
      refine lv_aload_n hx hb dX4_load_108 rfl (lv_at hl 1 rfl) ?_
      refine kFi (As := []) (rest := []) hx hb hml hown hG hl (okX4_advance l D cI cJ cP ad H.size (x.1, x.2.1, (upd x.2.2.1 ((a0 &&& (3 : Int32))).toNatClampNeg r21), x.2.2.2.1, x.2.2.2.2.1, x.2.2.2.2.2.1, x.2.2.2.2.2.2.1, u1) ⟨hI.1, hI.2.1, (up12 hI.2.2.1 j21), hI.2.2.2.1, hI.2.2.2.2.1, hI.2.2.2.2.2.1, hI.2.2.2.2.2.2.1, j1.2⟩) (cV 0 hG kw92 kw93 kw94 kw95 kw5 hdX4_advance ⟨by decide, by decide⟩) 0 4 rfl rfl hK hP hD hS hA hN rfl rfl (Nat.le_of_ble_eq_true rfl) dX4_load_109 ⟨Nat.zero_le _, Nat.zero_le _⟩ (fun r22 u22 q22 H locs hP hD hS => ?_)
      have j22 : ivX4_advanceP (r22, u22) := by rw [q22]; exact ivX4_advance (x.1, x.2.1, (upd x.2.2.1 ((a0 &&& (3 : Int32))).toNatClampNeg r21), x.2.2.2.1, x.2.2.2.2.1, x.2.2.2.2.2.1, x.2.2.2.2.2.2.1, u1) ⟨hI.1, hI.2.1, (up12 hI.2.2.1 j21), hI.2.2.2.1, hI.2.2.2.2.1, hI.2.2.2.2.2.1, hI.2.2.2.2.2.2.1, j1.2⟩
      exact reti (u := u22) hx hb hr hlocks hK hP hD hS dX4_load_112 (by unfold fnX4_load; rw [← q1]; (try dsimp only); rw [if_pos h2]; rw [if_neg h3]; rw [if_neg h5]; rw [if_neg h8]; rw [if_neg h11]; rw [if_neg h14]; rw [if_neg h17]; rw [if_pos h20]; rw [← q21]; (try dsimp only); rw [← q22]; (try dsimp only); (try exact rfl))
    refine lv_tableOut (tgt := 94) hx hb dX4_load_25 (by have a0 := neI (n := 9) h3 (by decide); have a1 := neI (n := 10) h5 (by decide); have a2 := neI (n := 11) h8 (by decide); have a3 := neI (n := 12) h11 (by decide); have a4 := neI (n := 13) h14 (by decide); have a5 := neI (n := 14) h17 (by decide); have a6 := neI (n := 15) h20 (by decide); omega) (by decide) ?_
    refine lv_aload_n hx hb dX4_load_94 rfl (lv_at hl 1 rfl) ?_
    refine lv_aload_n hx hb dX4_load_95 rfl (lv_at hl 1 rfl) ?_
    refine lv_iload_n hx hb dX4_load_96 rfl (lv_at hl 2 rfl) ?_
    refine lv_lload_n hx hb dX4_load_97 rfl (lv_at hl 0 rfl) ?_
    refine kFl (As := [.int (a0), .long (r1)]) (rest := [.ref (ad 0)]) hx hb hml hown hG hl (okX4_combined l D cI cJ cP ad H.size (x.1, x.2.1, x.2.2.1, x.2.2.2.1, x.2.2.2.2.1, x.2.2.2.2.2.1, x.2.2.2.2.2.2.1, u1) a0 r1 ⟨hI.1, hI.2.1, hI.2.2.1, hI.2.2.2.1, hI.2.2.2.2.1, hI.2.2.2.2.2.1, hI.2.2.2.2.2.2.1, j1.2⟩) (cV 2 hG kw129 kw130 kw131 kw132 kw5 hdX4_combined ⟨by decide, by decide⟩) 0 4 rfl rfl hK hP hD hS hA hN rfl rfl (Nat.le_of_ble_eq_true rfl) dX4_load_98 ⟨Nat.zero_le _, Nat.zero_le _⟩ (fun r23 _ q23 H locs hP hD hS => ?_)
    refine lv_ldc2 (v := 68719476735) hx hb hown (hG _ kw133) dX4_load_101 ?_
    refine lv_land hx hb dX4_load_104 ?_
    refine pu (D := D) (ci := 4) (v := .long ((r23 &&& (68719476735 : Int64)))) (ty := .long) (W' := (wR cI cJ cP ad (((r23 &&& (68719476735 : Int64)), x.1.2), x.2.1, x.2.2.1, x.2.2.2.1, x.2.2.2.2.1, x.2.2.2.2.2.1, x.2.2.2.2.2.2.1, u1))) hx hb hG inX4 tyX4 tyokX4 nmX4 hown hK hP hD hS 0 rfl rfl 1 (by decide) (hG _ kw90) (fun _ h9 => h9) rfl (by decide +kernel) rfl rfl (Nat.le_of_ble_eq_true rfl) dX4_load_105 rfl (fun H locs hP hD hS => ?_)
    refine lv_aload_n hx hb dX4_load_108 rfl (lv_at hl 1 rfl) ?_
    refine kFi (As := []) (rest := []) hx hb hml hown hG hl (okX4_advance l D cI cJ cP ad H.size (((r23 &&& (68719476735 : Int64)), x.1.2), x.2.1, x.2.2.1, x.2.2.2.1, x.2.2.2.2.1, x.2.2.2.2.2.1, x.2.2.2.2.2.2.1, u1) ⟨⟨(mkW _), hI.1.2⟩, hI.2.1, hI.2.2.1, hI.2.2.2.1, hI.2.2.2.2.1, hI.2.2.2.2.2.1, hI.2.2.2.2.2.2.1, j1.2⟩) (cV 0 hG kw92 kw93 kw94 kw95 kw5 hdX4_advance ⟨by decide, by decide⟩) 0 4 rfl rfl hK hP hD hS hA hN rfl rfl (Nat.le_of_ble_eq_true rfl) dX4_load_109 ⟨Nat.zero_le _, Nat.zero_le _⟩ (fun r24 u24 q24 H locs hP hD hS => ?_)
    have j24 : ivX4_advanceP (r24, u24) := by rw [q24]; exact ivX4_advance (((r23 &&& (68719476735 : Int64)), x.1.2), x.2.1, x.2.2.1, x.2.2.2.1, x.2.2.2.2.1, x.2.2.2.2.2.1, x.2.2.2.2.2.2.1, u1) ⟨⟨(mkW _), hI.1.2⟩, hI.2.1, hI.2.2.1, hI.2.2.2.1, hI.2.2.2.2.1, hI.2.2.2.2.2.1, hI.2.2.2.2.2.2.1, j1.2⟩
    exact reti (u := u24) hx hb hr hlocks hK hP hD hS dX4_load_112 (by unfold fnX4_load; rw [← q1]; (try dsimp only); rw [if_pos h2]; rw [if_neg h3]; rw [if_neg h5]; rw [if_neg h8]; rw [if_neg h11]; rw [if_neg h14]; rw [if_neg h17]; rw [if_neg h20]; rw [← q23]; (try dsimp only); rw [← q24]; (try dsimp only); (try exact rfl))
  · refine lv_lload_n hx hb dX4_load_19 rfl (lv_at hl 0 rfl) ?_
    refine k0Si (As := [.long (r1)]) (rest := []) hx hb hml hown hG hl (okX4_faultOf l D cI cJ cP  H.size r1 ) (cS 1 hG kw85 kw136 kw86 kw5 hdX4_faultOf ⟨by decide, by decide⟩) hK hP hD hS hA hN rfl rfl (Nat.le_of_ble_eq_true rfl) dX4_load_20 ⟨Nat.zero_le _, Nat.zero_le _⟩ (fun r25 q25 H locs hP hD hS => ?_)
    have j25 : i4 r25 := by rw [q25]; exact (fltI j1.1 (Int64.not_le.mp h2))
    exact reti (u := (x.1, x.2.1, x.2.2.1, x.2.2.2.1, x.2.2.2.2.1, x.2.2.2.2.2.1, x.2.2.2.2.2.2.1, u1)) hx hb hr hlocks hK hP hD hS dX4_load_23 (by unfold fnX4_load; rw [← q1]; (try dsimp only); rw [if_neg h2]; rw [← q25]; (try dsimp only); (try exact rfl))
def fnX4_addOne (x : TR)  : Int32 × TR :=
  let p1 := fnX3_read x.2.2.2.2.2.2.2 x.2.2.2.2.2.1 (0 : Int32)
  if (0 : Int64) ≤ p1.1 then
   let p3 := fnX3_write p1.2 x.2.2.2.2.2.1 ((p1.1 + (1 : Int64)) &&& (68719476735 : Int64))
   if p3.1 = (0 : Int32) then
    let p5 := fnX4_advance (x.1, x.2.1, x.2.2.1, x.2.2.2.1, x.2.2.2.2.1, x.2.2.2.2.2.1, x.2.2.2.2.2.2.1, p3.2)
    (p5.1, p5.2)
   else
    (p3.1, (x.1, x.2.1, x.2.2.1, x.2.2.2.1, x.2.2.2.2.1, x.2.2.2.2.2.1, x.2.2.2.2.2.2.1, p3.2))
  else
   let p6 := fnX4_faultOf p1.1
   (p6, (x.1, x.2.1, x.2.2.1, x.2.2.2.1, x.2.2.2.2.1, x.2.2.2.2.2.1, x.2.2.2.2.2.2.1, p1.2))
abbrev ivX4_addOneP (z : Int32 × TR) : Prop := i4 z.1 ∧ iR z.2
set_option maxRecDepth 100000 in
set_option maxHeartbeats 4000000 in
theorem ivX4_addOne (x : TR)  (hI : iR x) : ivX4_addOneP (fnX4_addOne x) := by
  unfold fnX4_addOne
  try dsimp only
  have j1 : ivX3_readP (fnX3_read x.2.2.2.2.2.2.2 x.2.2.2.2.2.1 (0 : Int32)) := ivX3_read x.2.2.2.2.2.2.2 x.2.2.2.2.2.1 (0 : Int32) hI.2.2.2.2.2.2.2 hI.2.2.2.2.2.1
  generalize fnX3_read x.2.2.2.2.2.2.2 x.2.2.2.2.2.1 (0 : Int32) = p1 at j1 ⊢
  refine iteI (fun h2 => ?_) (fun h2 => ?_)
  · have j3 : ivX3_writeP (fnX3_write p1.2 x.2.2.2.2.2.1 ((p1.1 + (1 : Int64)) &&& (68719476735 : Int64))) := ivX3_write p1.2 x.2.2.2.2.2.1 ((p1.1 + (1 : Int64)) &&& (68719476735 : Int64)) j1.2 hI.2.2.2.2.2.1 (mkW _)
    generalize fnX3_write p1.2 x.2.2.2.2.2.1 ((p1.1 + (1 : Int64)) &&& (68719476735 : Int64)) = p3 at j3 ⊢
    refine iteI (fun h4 => ?_) (fun h4 => ?_)
    · have j5 : ivX4_advanceP (fnX4_advance (x.1, x.2.1, x.2.2.1, x.2.2.2.1, x.2.2.2.2.1, x.2.2.2.2.2.1, x.2.2.2.2.2.2.1, p3.2)) := ivX4_advance (x.1, x.2.1, x.2.2.1, x.2.2.2.1, x.2.2.2.2.1, x.2.2.2.2.2.1, x.2.2.2.2.2.2.1, p3.2) ⟨hI.1, hI.2.1, hI.2.2.1, hI.2.2.2.1, hI.2.2.2.2.1, hI.2.2.2.2.2.1, hI.2.2.2.2.2.2.1, j3.2⟩
      generalize fnX4_advance (x.1, x.2.1, x.2.2.1, x.2.2.2.1, x.2.2.2.2.1, x.2.2.2.2.2.1, x.2.2.2.2.2.2.1, p3.2) = p5 at j5 ⊢
      exact ⟨j5.1, j5.2⟩
    · exact ⟨j3.1, ⟨hI.1, hI.2.1, hI.2.2.1, hI.2.2.2.1, hI.2.2.2.2.1, hI.2.2.2.2.2.1, hI.2.2.2.2.2.2.1, j3.2⟩⟩
  · have j6 : i4 (fnX4_faultOf p1.1) := (fltI j1.1 (Int64.not_le.mp h2))
    generalize fnX4_faultOf p1.1 = p6 at j6 ⊢
    exact ⟨j6, ⟨hI.1, hI.2.1, hI.2.2.1, hI.2.2.2.1, hI.2.2.2.2.1, hI.2.2.2.2.2.1, hI.2.2.2.2.2.2.1, j1.2⟩⟩
set_option maxRecDepth 100000 in
set_option maxHeartbeats 4000000 in
theorem okX4_addOne (l : Launch) (D : va_G) (cI cJ cP : ClassId) (ad : Nat → Nat) (sz : Nat) (x : TR)  (hI : iR x) : Met l yX4_addOne (Cond.code yX4_addOne cX4_addOne 4 (some .int) :: gG) { frames := 4, cells := 0, slots := 0, locals := 106 } (va_Pc [.ref (ad 0)] (PRE D (tz cI cJ cP) sz (wR cI cJ cP ad x))) (va_Qi (fun (r : Int32) (u : TR) => (r, u) = fnX4_addOne x) (AT D (tz cI cJ cP) (va_A (wR cI cJ cP ad x) sz) (fun (u : TR) => (wR cI cJ cP ad u))) (va_A (wR cI cJ cP ad x) sz)) 0 0 (va_A (wR cI cJ cP ad x) sz) := by
  refine mo (QA := fun A => va_Qi (fun (r : Int32) (u : TR) => (r, u) = fnX4_addOne x) (AT D (tz cI cJ cP) A (fun (u : TR) => (wR cI cJ cP ad u))) A) (by decide) (Nat.le_of_ble_eq_true rfl) ?_
  intro p e s m below meth c A ls H hx hb hr hml hown hG hlocks hnm hA hS hP hK hD hl hN
  have hown : s.vm.findClass RX4 = some m.cls := hown
  have hl : lv_has ls 4 [(0, .ref (ad 0))] := hl
  refine lv_aload_n hx hb dX4_addOne_0 rfl (lv_at hl 0 rfl) ?_
  refine va_get (D := D) (ci := 4) (v := .ref (ad 1)) hx hb hG inX4 hown hK hP 0 rfl rfl 0 (by decide) (hG _ kw104) (fun _ h9 => h9) rfl dX4_addOne_1 ?_
  refine lv_aload_n hx hb dX4_addOne_4 rfl (lv_at hl 0 rfl) ?_
  refine va_get (D := D) (ci := 4) (v := .ref (ad 12)) hx hb hG inX4 hown hK hP 0 rfl rfl 6 (by decide) (hG _ kw124) (fun _ h9 => h9) rfl dX4_addOne_5 ?_
  refine lv_iconst (v := 0) hx hb dX4_addOne_8 (by decide) ?_
  refine kVl (As := [.ref (ad 12), .int ((0 : Int32))]) (rest := []) (W' := (fun u1 => (wR cI cJ cP ad (x.1, x.2.1, x.2.2.1, x.2.2.2.1, x.2.2.2.2.1, x.2.2.2.2.2.1, x.2.2.2.2.2.2.1, u1)))) hx hb hml hown hG hl (okX3_read l D cI cJ cP (fun i => ad (i + 1)) H.size x.2.2.2.2.2.2.2 x.2.2.2.2.2.1 (0 : Int32) hI.2.2.2.2.2.2.2 hI.2.2.2.2.2.1) (cV 2 hG kw125 kw126 kw127 kw128 kw60 hdX3_read ⟨by decide, by decide⟩) 1 3 rfl rfl hK hP hD hS hA hN [1, 2, 3, 4, 5, 6, 7, 8, 9, 10, 11, 12] rfl rfl rfl (fun _ => rfl) (fun _ => rfl) rfl rfl (Nat.le_of_ble_eq_true rfl) dX4_addOne_9 ⟨Nat.zero_le _, Nat.zero_le _⟩ (fun r1 u1 q1 H locs hP hD hS => ?_)
  have j1 : ivX3_readP (r1, u1) := by rw [q1]; exact ivX3_read x.2.2.2.2.2.2.2 x.2.2.2.2.2.1 (0 : Int32) hI.2.2.2.2.2.2.2 hI.2.2.2.2.2.1
  refine lv_lstore_n (lv' := [(1, .long (r1)), (0, .ref (ad 0))]) hx hb dX4_addOne_12 rfl hl (by decide) rfl (fun ls hl => ?_)
  refine lv_lload_n hx hb dX4_addOne_13 rfl (lv_at hl 0 rfl) ?_
  refine lv_lconst (v := 0) hx hb dX4_addOne_14 (by decide) ?_
  refine lq_ge (tgt := 24) hx hb dX4_addOne_15 dX4_addOne_16 (by decide) (fun h2 => ?_) (fun h2 => ?_)
  · refine lv_aload_n hx hb dX4_addOne_24 rfl (lv_at hl 1 rfl) ?_
    refine va_get (D := D) (ci := 4) (v := .ref (ad 1)) hx hb hG inX4 hown hK hP 0 rfl rfl 0 (by decide) (hG _ kw104) (fun _ h9 => h9) rfl dX4_addOne_25 ?_
    refine lv_aload_n hx hb dX4_addOne_28 rfl (lv_at hl 1 rfl) ?_
    refine va_get (D := D) (ci := 4) (v := .ref (ad 12)) hx hb hG inX4 hown hK hP 0 rfl rfl 6 (by decide) (hG _ kw124) (fun _ h9 => h9) rfl dX4_addOne_29 ?_
    refine lv_lload_n hx hb dX4_addOne_32 rfl (lv_at hl 0 rfl) ?_
    refine lv_lconst (v := 1) hx hb dX4_addOne_33 (by decide) ?_
    refine lv_ladd hx hb dX4_addOne_34 ?_
    refine lv_ldc2 (v := 68719476735) hx hb hown (hG _ kw133) dX4_addOne_35 ?_
    refine lv_land hx hb dX4_addOne_38 ?_
    refine kVi (As := [.ref (ad 12), .long (((r1 + (1 : Int64)) &&& (68719476735 : Int64)))]) (rest := []) (W' := (fun u3 => (wR cI cJ cP ad (x.1, x.2.1, x.2.2.1, x.2.2.2.1, x.2.2.2.2.1, x.2.2.2.2.2.1, x.2.2.2.2.2.2.1, u3)))) hx hb hml hown hG hl (okX3_write l D cI cJ cP (fun i => ad (i + 1)) H.size u1 x.2.2.2.2.2.1 ((r1 + (1 : Int64)) &&& (68719476735 : Int64)) j1.2 hI.2.2.2.2.2.1 (mkW _)) (cV 2 hG kw137 kw138 kw139 kw140 kw60 hdX3_write ⟨by decide, by decide⟩) 1 3 rfl rfl hK hP hD hS hA hN [1, 2, 3, 4, 5, 6, 7, 8, 9, 10, 11, 12] rfl rfl rfl (fun _ => rfl) (fun _ => rfl) rfl rfl (Nat.le_of_ble_eq_true rfl) dX4_addOne_39 ⟨Nat.zero_le _, Nat.zero_le _⟩ (fun r3 u3 q3 H locs hP hD hS => ?_)
    have j3 : ivX3_writeP (r3, u3) := by rw [q3]; exact ivX3_write u1 x.2.2.2.2.2.1 ((r1 + (1 : Int64)) &&& (68719476735 : Int64)) j1.2 hI.2.2.2.2.2.1 (mkW _)
    refine lv_istore_n (lv' := [(3, .int (r3)), (1, .long (r1)), (0, .ref (ad 0))]) hx hb dX4_addOne_42 rfl hl (by decide) rfl (fun ls hl => ?_)
    refine lv_iload_n hx hb dX4_addOne_43 rfl (lv_at hl 0 rfl) ?_
    refine lv_if_ne (tgt := 54) hx hb dX4_addOne_44 (by decide) (fun h4 => ?_) (fun h4 => ?_)
    · refine lv_iload_n hx hb dX4_addOne_54 rfl (lv_at hl 0 rfl) ?_
      exact reti (u := (x.1, x.2.1, x.2.2.1, x.2.2.2.1, x.2.2.2.2.1, x.2.2.2.2.2.1, x.2.2.2.2.2.2.1, u3)) hx hb hr hlocks hK hP hD hS dX4_addOne_55 (by unfold fnX4_addOne; rw [← q1]; (try dsimp only); rw [if_pos h2]; rw [← q3]; (try dsimp only); rw [if_neg h4]; (try exact rfl))
    · refine lv_aload_n hx hb dX4_addOne_47 rfl (lv_at hl 2 rfl) ?_
      refine kFi (As := []) (rest := []) hx hb hml hown hG hl (okX4_advance l D cI cJ cP ad H.size (x.1, x.2.1, x.2.2.1, x.2.2.2.1, x.2.2.2.2.1, x.2.2.2.2.2.1, x.2.2.2.2.2.2.1, u3) ⟨hI.1, hI.2.1, hI.2.2.1, hI.2.2.2.1, hI.2.2.2.2.1, hI.2.2.2.2.2.1, hI.2.2.2.2.2.2.1, j3.2⟩) (cV 0 hG kw92 kw93 kw94 kw95 kw5 hdX4_advance ⟨by decide, by decide⟩) 0 4 rfl rfl hK hP hD hS hA hN rfl rfl (Nat.le_of_ble_eq_true rfl) dX4_addOne_48 ⟨Nat.zero_le _, Nat.zero_le _⟩ (fun r5 u5 q5 H locs hP hD hS => ?_)
      have j5 : ivX4_advanceP (r5, u5) := by rw [q5]; exact ivX4_advance (x.1, x.2.1, x.2.2.1, x.2.2.2.1, x.2.2.2.2.1, x.2.2.2.2.2.1, x.2.2.2.2.2.2.1, u3) ⟨hI.1, hI.2.1, hI.2.2.1, hI.2.2.2.1, hI.2.2.2.2.1, hI.2.2.2.2.2.1, hI.2.2.2.2.2.2.1, j3.2⟩
      refine lv_goto (tgt := 55) hx hb dX4_addOne_51 (by decide) ?_
      exact reti (u := u5) hx hb hr hlocks hK hP hD hS dX4_addOne_55 (by unfold fnX4_addOne; rw [← q1]; (try dsimp only); rw [if_pos h2]; rw [← q3]; (try dsimp only); rw [if_pos h4]; rw [← q5]; (try dsimp only); (try exact rfl))
  · refine lv_lload_n hx hb dX4_addOne_19 rfl (lv_at hl 0 rfl) ?_
    refine k0Si (As := [.long (r1)]) (rest := []) hx hb hml hown hG hl (okX4_faultOf l D cI cJ cP  H.size r1 ) (cS 1 hG kw85 kw136 kw86 kw5 hdX4_faultOf ⟨by decide, by decide⟩) hK hP hD hS hA hN rfl rfl (Nat.le_of_ble_eq_true rfl) dX4_addOne_20 ⟨Nat.zero_le _, Nat.zero_le _⟩ (fun r6 q6 H locs hP hD hS => ?_)
    have j6 : i4 r6 := by rw [q6]; exact (fltI j1.1 (Int64.not_le.mp h2))
    exact reti (u := (x.1, x.2.1, x.2.2.1, x.2.2.2.1, x.2.2.2.2.1, x.2.2.2.2.2.1, x.2.2.2.2.2.2.1, u1)) hx hb hr hlocks hK hP hD hS dX4_addOne_23 (by unfold fnX4_addOne; rw [← q1]; (try dsimp only); rw [if_neg h2]; rw [← q6]; (try dsimp only); (try exact rfl))
def fnX4_put (x : TR) (a0 : Int64) : Int32 × TR :=
  let p1 := fnX3_write x.2.2.2.2.2.2.2 x.2.2.2.2.2.1 a0
  if p1.1 = (0 : Int32) then
   let p3 := fnX4_advance (x.1, x.2.1, x.2.2.1, x.2.2.2.1, x.2.2.2.2.1, x.2.2.2.2.2.1, x.2.2.2.2.2.2.1, p1.2)
   (p3.1, p3.2)
  else
   (p1.1, (x.1, x.2.1, x.2.2.1, x.2.2.2.1, x.2.2.2.2.1, x.2.2.2.2.2.1, x.2.2.2.2.2.2.1, p1.2))
abbrev ivX4_putP (z : Int32 × TR) : Prop := i4 z.1 ∧ iR z.2
set_option maxRecDepth 100000 in
set_option maxHeartbeats 4000000 in
theorem ivX4_put (x : TR) (a0 : Int64) (hI : iR x) (g0 : i36 a0) : ivX4_putP (fnX4_put x a0) := by
  unfold fnX4_put
  try dsimp only
  have j1 : ivX3_writeP (fnX3_write x.2.2.2.2.2.2.2 x.2.2.2.2.2.1 a0) := ivX3_write x.2.2.2.2.2.2.2 x.2.2.2.2.2.1 a0 hI.2.2.2.2.2.2.2 hI.2.2.2.2.2.1 g0
  generalize fnX3_write x.2.2.2.2.2.2.2 x.2.2.2.2.2.1 a0 = p1 at j1 ⊢
  refine iteI (fun h2 => ?_) (fun h2 => ?_)
  · have j3 : ivX4_advanceP (fnX4_advance (x.1, x.2.1, x.2.2.1, x.2.2.2.1, x.2.2.2.2.1, x.2.2.2.2.2.1, x.2.2.2.2.2.2.1, p1.2)) := ivX4_advance (x.1, x.2.1, x.2.2.1, x.2.2.2.1, x.2.2.2.2.1, x.2.2.2.2.2.1, x.2.2.2.2.2.2.1, p1.2) ⟨hI.1, hI.2.1, hI.2.2.1, hI.2.2.2.1, hI.2.2.2.2.1, hI.2.2.2.2.2.1, hI.2.2.2.2.2.2.1, j1.2⟩
    generalize fnX4_advance (x.1, x.2.1, x.2.2.1, x.2.2.2.1, x.2.2.2.2.1, x.2.2.2.2.2.1, x.2.2.2.2.2.2.1, p1.2) = p3 at j3 ⊢
    exact ⟨j3.1, j3.2⟩
  · exact ⟨j1.1, ⟨hI.1, hI.2.1, hI.2.2.1, hI.2.2.2.1, hI.2.2.2.2.1, hI.2.2.2.2.2.1, hI.2.2.2.2.2.2.1, j1.2⟩⟩
set_option maxRecDepth 100000 in
set_option maxHeartbeats 4000000 in
theorem okX4_put (l : Launch) (D : va_G) (cI cJ cP : ClassId) (ad : Nat → Nat) (sz : Nat) (x : TR) (a0 : Int64) (hI : iR x) (g0 : i36 a0) : Met l yX4_put (Cond.code yX4_put cX4_put 4 (some .int) :: gG) { frames := 4, cells := 0, slots := 0, locals := 106 } (va_Pc [.ref (ad 0), .long a0] (PRE D (tz cI cJ cP) sz (wR cI cJ cP ad x))) (va_Qi (fun (r : Int32) (u : TR) => (r, u) = fnX4_put x a0) (AT D (tz cI cJ cP) (va_A (wR cI cJ cP ad x) sz) (fun (u : TR) => (wR cI cJ cP ad u))) (va_A (wR cI cJ cP ad x) sz)) 0 0 (va_A (wR cI cJ cP ad x) sz) := by
  refine mo (QA := fun A => va_Qi (fun (r : Int32) (u : TR) => (r, u) = fnX4_put x a0) (AT D (tz cI cJ cP) A (fun (u : TR) => (wR cI cJ cP ad u))) A) (by decide) (Nat.le_of_ble_eq_true rfl) ?_
  intro p e s m below meth c A ls H hx hb hr hml hown hG hlocks hnm hA hS hP hK hD hl hN
  have hown : s.vm.findClass RX4 = some m.cls := hown
  have hl : lv_has ls 4 [(0, .ref (ad 0)), (1, .long a0)] := hl
  refine lv_aload_n hx hb dX4_put_0 rfl (lv_at hl 0 rfl) ?_
  refine va_get (D := D) (ci := 4) (v := .ref (ad 1)) hx hb hG inX4 hown hK hP 0 rfl rfl 0 (by decide) (hG _ kw104) (fun _ h9 => h9) rfl dX4_put_1 ?_
  refine lv_aload_n hx hb dX4_put_4 rfl (lv_at hl 0 rfl) ?_
  refine va_get (D := D) (ci := 4) (v := .ref (ad 12)) hx hb hG inX4 hown hK hP 0 rfl rfl 6 (by decide) (hG _ kw124) (fun _ h9 => h9) rfl dX4_put_5 ?_
  refine lv_lload_n hx hb dX4_put_8 rfl (lv_at hl 1 rfl) ?_
  refine kVi (As := [.ref (ad 12), .long (a0)]) (rest := []) (W' := (fun u1 => (wR cI cJ cP ad (x.1, x.2.1, x.2.2.1, x.2.2.2.1, x.2.2.2.2.1, x.2.2.2.2.2.1, x.2.2.2.2.2.2.1, u1)))) hx hb hml hown hG hl (okX3_write l D cI cJ cP (fun i => ad (i + 1)) H.size x.2.2.2.2.2.2.2 x.2.2.2.2.2.1 a0 hI.2.2.2.2.2.2.2 hI.2.2.2.2.2.1 g0) (cV 2 hG kw137 kw138 kw139 kw140 kw60 hdX3_write ⟨by decide, by decide⟩) 1 3 rfl rfl hK hP hD hS hA hN [1, 2, 3, 4, 5, 6, 7, 8, 9, 10, 11, 12] rfl rfl rfl (fun _ => rfl) (fun _ => rfl) rfl rfl (Nat.le_of_ble_eq_true rfl) dX4_put_9 ⟨Nat.zero_le _, Nat.zero_le _⟩ (fun r1 u1 q1 H locs hP hD hS => ?_)
  have j1 : ivX3_writeP (r1, u1) := by rw [q1]; exact ivX3_write x.2.2.2.2.2.2.2 x.2.2.2.2.2.1 a0 hI.2.2.2.2.2.2.2 hI.2.2.2.2.2.1 g0
  refine lv_istore_n (lv' := [(3, .int (r1)), (0, .ref (ad 0)), (1, .long (a0))]) hx hb dX4_put_12 rfl hl (by decide) rfl (fun ls hl => ?_)
  refine lv_iload_n hx hb dX4_put_13 rfl (lv_at hl 0 rfl) ?_
  refine lv_if_ne (tgt := 24) hx hb dX4_put_14 (by decide) (fun h2 => ?_) (fun h2 => ?_)
  · refine lv_iload_n hx hb dX4_put_24 rfl (lv_at hl 0 rfl) ?_
    exact reti (u := (x.1, x.2.1, x.2.2.1, x.2.2.2.1, x.2.2.2.2.1, x.2.2.2.2.2.1, x.2.2.2.2.2.2.1, u1)) hx hb hr hlocks hK hP hD hS dX4_put_25 (by unfold fnX4_put; rw [← q1]; (try dsimp only); rw [if_neg h2]; (try exact rfl))
  · refine lv_aload_n hx hb dX4_put_17 rfl (lv_at hl 1 rfl) ?_
    refine kFi (As := []) (rest := []) hx hb hml hown hG hl (okX4_advance l D cI cJ cP ad H.size (x.1, x.2.1, x.2.2.1, x.2.2.2.1, x.2.2.2.2.1, x.2.2.2.2.2.1, x.2.2.2.2.2.2.1, u1) ⟨hI.1, hI.2.1, hI.2.2.1, hI.2.2.2.1, hI.2.2.2.2.1, hI.2.2.2.2.2.1, hI.2.2.2.2.2.2.1, j1.2⟩) (cV 0 hG kw92 kw93 kw94 kw95 kw5 hdX4_advance ⟨by decide, by decide⟩) 0 4 rfl rfl hK hP hD hS hA hN rfl rfl (Nat.le_of_ble_eq_true rfl) dX4_put_18 ⟨Nat.zero_le _, Nat.zero_le _⟩ (fun r3 u3 q3 H locs hP hD hS => ?_)
    have j3 : ivX4_advanceP (r3, u3) := by rw [q3]; exact ivX4_advance (x.1, x.2.1, x.2.2.1, x.2.2.2.1, x.2.2.2.2.1, x.2.2.2.2.2.1, x.2.2.2.2.2.2.1, u1) ⟨hI.1, hI.2.1, hI.2.2.1, hI.2.2.2.1, hI.2.2.2.2.1, hI.2.2.2.2.2.1, hI.2.2.2.2.2.2.1, j1.2⟩
    refine lv_goto (tgt := 25) hx hb dX4_put_21 (by decide) ?_
    exact reti (u := u3) hx hb hr hlocks hK hP hD hS dX4_put_25 (by unfold fnX4_put; rw [← q1]; (try dsimp only); rw [if_pos h2]; rw [← q3]; (try dsimp only); (try exact rfl))
def fnX4_transfer (x : TR) (a0 : Int32) : Int32 × TR :=
  if a0 = (0 : Int32) then
   let p4 := fnX4_advance x
   (p4.1, p4.2)
  else
   if x.2.2.2.2.2.1.2.2 = x.2.2.2.2.1.2.2 then
    let p3 := fnX2_become x.2.2.2.2.1 x.2.2.2.2.2.1
    ((0 : Int32), (x.1, x.2.1, x.2.2.1, x.2.2.2.1, p3, x.2.2.2.2.2.1, x.2.2.2.2.2.2.1, x.2.2.2.2.2.2.2))
   else
    ((5 : Int32), x)
abbrev ivX4_transferP (z : Int32 × TR) : Prop := i4 z.1 ∧ iR z.2
set_option maxRecDepth 100000 in
set_option maxHeartbeats 4000000 in
theorem ivX4_transfer (x : TR) (a0 : Int32) (hI : iR x) : ivX4_transferP (fnX4_transfer x a0) := by
  unfold fnX4_transfer
  try dsimp only
  refine iteI (fun h1 => ?_) (fun h1 => ?_)
  · have j4 : ivX4_advanceP (fnX4_advance x) := ivX4_advance x hI
    generalize fnX4_advance x = p4 at j4 ⊢
    exact ⟨j4.1, j4.2⟩
  · refine iteI (fun h2 => ?_) (fun h2 => ?_)
    · have j3 : ivX2_becomeP (fnX2_become x.2.2.2.2.1 x.2.2.2.2.2.1) := ivX2_become x.2.2.2.2.1 x.2.2.2.2.2.1 hI.2.2.2.2.1 hI.2.2.2.2.2.1
      generalize fnX2_become x.2.2.2.2.1 x.2.2.2.2.2.1 = p3 at j3 ⊢
      exact ⟨(show i4 (0 : Int32) from by decide), ⟨hI.1, hI.2.1, hI.2.2.1, hI.2.2.2.1, j3, hI.2.2.2.2.2.1, hI.2.2.2.2.2.2.1, hI.2.2.2.2.2.2.2⟩⟩
    · exact ⟨(show i4 (5 : Int32) from by decide), hI⟩
set_option maxRecDepth 100000 in
set_option maxHeartbeats 4000000 in
theorem okX4_transfer (l : Launch) (D : va_G) (cI cJ cP : ClassId) (ad : Nat → Nat) (sz : Nat) (x : TR) (a0 : Int32) (hI : iR x) : Met l yX4_transfer (Cond.code yX4_transfer cX4_transfer 2 (some .int) :: gG) { frames := 2, cells := 0, slots := 0, locals := 41 } (va_Pc [.ref (ad 0), .int a0] (PRE D (tz cI cJ cP) sz (wR cI cJ cP ad x))) (va_Qi (fun (r : Int32) (u : TR) => (r, u) = fnX4_transfer x a0) (AT D (tz cI cJ cP) (va_A (wR cI cJ cP ad x) sz) (fun (u : TR) => (wR cI cJ cP ad u))) (va_A (wR cI cJ cP ad x) sz)) 0 0 (va_A (wR cI cJ cP ad x) sz) := by
  refine mo (QA := fun A => va_Qi (fun (r : Int32) (u : TR) => (r, u) = fnX4_transfer x a0) (AT D (tz cI cJ cP) A (fun (u : TR) => (wR cI cJ cP ad u))) A) (by decide) (Nat.le_of_ble_eq_true rfl) ?_
  intro p e s m below meth c A ls H hx hb hr hml hown hG hlocks hnm hA hS hP hK hD hl hN
  have hown : s.vm.findClass RX4 = some m.cls := hown
  have hl : lv_has ls 2 [(0, .ref (ad 0)), (1, .int a0)] := hl
  refine lv_iload_n hx hb dX4_transfer_0 rfl (lv_at hl 1 rfl) ?_
  refine lv_if_ne (tgt := 9) hx hb dX4_transfer_1 (by decide) (fun h1 => ?_) (fun h1 => ?_)
  · refine lv_aload_n hx hb dX4_transfer_9 rfl (lv_at hl 0 rfl) ?_
    refine va_get (D := D) (ci := 4) (v := .ref (ad 12)) hx hb hG inX4 hown hK hP 0 rfl rfl 6 (by decide) (hG _ kw124) (fun _ h9 => h9) rfl dX4_transfer_10 ?_
    refine va_get (D := D) (ci := 2) (v := .int (x.2.2.2.2.2.1.2.2)) hx hb hG inX2 hown hK hP 12 rfl rfl 2 (by decide) (hG _ kw119) (fun _ h9 => h9) rfl dX4_transfer_13 ?_
    refine lv_aload_n hx hb dX4_transfer_16 rfl (lv_at hl 0 rfl) ?_
    refine va_get (D := D) (ci := 4) (v := .ref (ad 19)) hx hb hG inX4 hown hK hP 0 rfl rfl 5 (by decide) (hG _ kw87) (fun _ h9 => h9) rfl dX4_transfer_17 ?_
    refine va_get (D := D) (ci := 2) (v := .int (x.2.2.2.2.1.2.2)) hx hb hG inX2 hown hK hP 19 rfl rfl 2 (by decide) (hG _ kw119) (fun _ h9 => h9) rfl dX4_transfer_20 ?_
    refine lv_icmp_eq (tgt := 28) hx hb dX4_transfer_23 (by decide) (fun h2 => ?_) (fun h2 => ?_)
    · refine lv_aload_n hx hb dX4_transfer_28 rfl (lv_at hl 0 rfl) ?_
      refine va_get (D := D) (ci := 4) (v := .ref (ad 19)) hx hb hG inX4 hown hK hP 0 rfl rfl 5 (by decide) (hG _ kw87) (fun _ h9 => h9) rfl dX4_transfer_29 ?_
      refine lv_aload_n hx hb dX4_transfer_32 rfl (lv_at hl 0 rfl) ?_
      refine va_get (D := D) (ci := 4) (v := .ref (ad 12)) hx hb hG inX4 hown hK hP 0 rfl rfl 6 (by decide) (hG _ kw124) (fun _ h9 => h9) rfl dX4_transfer_33 ?_
      refine kVv (As := [.ref (ad 12)]) (rest := []) (W' := (fun u3 => (wR cI cJ cP ad (x.1, x.2.1, x.2.2.1, x.2.2.2.1, u3, x.2.2.2.2.2.1, x.2.2.2.2.2.2.1, x.2.2.2.2.2.2.2)))) hx hb hml hown hG hl (okX2_become l D cI cJ cP (ad 19) (ad 12) H.size x.2.2.2.2.1 x.2.2.2.2.2.1 hI.2.2.2.2.1 hI.2.2.2.2.2.1) (cV 1 hG kw98 kw100 kw101 kw102 kw99 hdX2_become ⟨by decide, by decide⟩) 19 2 rfl rfl hK hP hD hS hA hN [19, 12] rfl rfl rfl (fun _ => rfl) (fun _ => rfl) rfl rfl (Nat.le_of_ble_eq_true rfl) dX4_transfer_36 ⟨Nat.zero_le _, Nat.zero_le _⟩ (fun u3 q3 H locs hP hD hS => ?_)
      have j3 : ivX2_becomeP u3 := by rw [q3]; exact ivX2_become x.2.2.2.2.1 x.2.2.2.2.2.1 hI.2.2.2.2.1 hI.2.2.2.2.2.1
      refine lv_iconst (v := 0) hx hb dX4_transfer_39 (by decide) ?_
      exact reti (u := (x.1, x.2.1, x.2.2.1, x.2.2.2.1, u3, x.2.2.2.2.2.1, x.2.2.2.2.2.2.1, x.2.2.2.2.2.2.2)) hx hb hr hlocks hK hP hD hS dX4_transfer_40 (by unfold fnX4_transfer; (try dsimp only); rw [if_neg h1]; rw [if_pos h2]; rw [← q3]; (try dsimp only); (try exact rfl))
    · refine lv_iconst (v := 5) hx hb dX4_transfer_26 (by decide) ?_
      exact reti (u := x) hx hb hr hlocks hK hP hD hS dX4_transfer_27 (by unfold fnX4_transfer; (try dsimp only); rw [if_neg h1]; rw [if_neg h2]; (try exact rfl))
  · refine lv_aload_n hx hb dX4_transfer_4 rfl (lv_at hl 0 rfl) ?_
    refine kFi (As := []) (rest := []) hx hb hml hown hG hl (okX4_advance l D cI cJ cP ad H.size x hI) (cV 0 hG kw92 kw93 kw94 kw95 kw5 hdX4_advance ⟨by decide, by decide⟩) 0 4 rfl rfl hK hP hD hS hA hN rfl rfl (Nat.le_of_ble_eq_true rfl) dX4_transfer_5 ⟨Nat.zero_le _, Nat.zero_le _⟩ (fun r4 u4 q4 H locs hP hD hS => ?_)
    have j4 : ivX4_advanceP (r4, u4) := by rw [q4]; exact ivX4_advance x hI
    exact reti (u := u4) hx hb hr hlocks hK hP hD hS dX4_transfer_8 (by unfold fnX4_transfer; (try dsimp only); rw [if_pos h1]; rw [← q4]; (try dsimp only); (try exact rfl))
def fnX4_callAddress (x : TR)  : Int32 × TR :=
  let p1 := fnX3_lookForDescriptor x.2.2.2.2.2.2.2 x.2.2.2.2.2.1.1 (1 : Int32)
  if p1.2.2.2.1 = (0 : Int32) then
   ((1 : Int32), (x.1, x.2.1, x.2.2.1, x.2.2.2.1, x.2.2.2.2.1, x.2.2.2.2.2.1, x.2.2.2.2.2.2.1, p1))
  else
   if p1.2.2.2.2.2.2.2.2.2.2.2.2.1 = (0 : Int32) then
    ((4 : Int32), (x.1, x.2.1, x.2.2.1, x.2.2.2.1, x.2.2.2.2.1, x.2.2.2.2.2.1, x.2.2.2.2.2.2.1, p1))
   else
    let p4 := fnX1_ringOfCall p1.2.2.2 x.2.2.2.2.2.1.2.1 x.2.2.2.2.2.1.2.2
    if p4 = (-1 : Int32) then
     ((5 : Int32), (x.1, x.2.1, x.2.2.1, x.2.2.2.1, x.2.2.2.2.1, x.2.2.2.2.2.1, x.2.2.2.2.2.2.1, p1))
    else
     let p6 := fnX4_advance (x.1, x.2.1, x.2.2.1, x.2.2.2.1, x.2.2.2.2.1, x.2.2.2.2.2.1, x.2.2.2.2.2.2.1, p1)
     let p7 := fnX2_become p6.2.2.2.2.1.1 p6.2.2.2.2.2.1
     let p8 := fnX2_become p6.2.2.2.2.2.1 p6.2.2.2.2.2.2.1
     ((0 : Int32), (p6.2.1, p6.2.2.1, p6.2.2.2.1, (p7, p6.2.2.2.2.1.2.1, p6.2.2.2.2.1.2.2.1, p6.2.2.2.2.1.2.2.2), (p8.1, p8.2.1, p4), p6.2.2.2.2.2.2.1, p6.2.2.2.2.2.2.2.1, p6.2.2.2.2.2.2.2.2))
abbrev ivX4_callAddressP (z : Int32 × TR) : Prop := i4 z.1 ∧ iR z.2
set_option maxRecDepth 100000 in
set_option maxHeartbeats 4000000 in
theorem ivX4_callAddress (x : TR)  (hI : iR x) : ivX4_callAddressP (fnX4_callAddress x) := by
  unfold fnX4_callAddress
  try dsimp only
  have j1 : ivX3_lookForDescriptorP (fnX3_lookForDescriptor x.2.2.2.2.2.2.2 x.2.2.2.2.2.1.1 (1 : Int32)) := ivX3_lookForDescriptor x.2.2.2.2.2.2.2 x.2.2.2.2.2.1.1 (1 : Int32) hI.2.2.2.2.2.2.2 hI.2.2.2.2.2.1.1
  generalize fnX3_lookForDescriptor x.2.2.2.2.2.2.2 x.2.2.2.2.2.1.1 (1 : Int32) = p1 at j1 ⊢
  refine iteI (fun h2 => ?_) (fun h2 => ?_)
  · exact ⟨(show i4 (1 : Int32) from by decide), ⟨hI.1, hI.2.1, hI.2.2.1, hI.2.2.2.1, hI.2.2.2.2.1, hI.2.2.2.2.2.1, hI.2.2.2.2.2.2.1, j1⟩⟩
  · refine iteI (fun h3 => ?_) (fun h3 => ?_)
    · exact ⟨(show i4 (4 : Int32) from by decide), ⟨hI.1, hI.2.1, hI.2.2.1, hI.2.2.2.1, hI.2.2.2.2.1, hI.2.2.2.2.2.1, hI.2.2.2.2.2.2.1, j1⟩⟩
    · have j4 : ivX1_ringOfCallP (fnX1_ringOfCall p1.2.2.2 x.2.2.2.2.2.1.2.1 x.2.2.2.2.2.1.2.2) := ivX1_ringOfCall p1.2.2.2 x.2.2.2.2.2.1.2.1 x.2.2.2.2.2.1.2.2 j1.2.2.2 hI.2.2.2.2.2.1.2.2
      generalize fnX1_ringOfCall p1.2.2.2 x.2.2.2.2.2.1.2.1 x.2.2.2.2.2.1.2.2 = p4 at j4 ⊢
      refine iteI (fun h5 => ?_) (fun h5 => ?_)
      · exact ⟨(show i4 (5 : Int32) from by decide), ⟨hI.1, hI.2.1, hI.2.2.1, hI.2.2.2.1, hI.2.2.2.2.1, hI.2.2.2.2.2.1, hI.2.2.2.2.2.2.1, j1⟩⟩
      · have j6 : ivX4_advanceP (fnX4_advance (x.1, x.2.1, x.2.2.1, x.2.2.2.1, x.2.2.2.2.1, x.2.2.2.2.2.1, x.2.2.2.2.2.2.1, p1)) := ivX4_advance (x.1, x.2.1, x.2.2.1, x.2.2.2.1, x.2.2.2.2.1, x.2.2.2.2.2.1, x.2.2.2.2.2.2.1, p1) ⟨hI.1, hI.2.1, hI.2.2.1, hI.2.2.2.1, hI.2.2.2.2.1, hI.2.2.2.2.2.1, hI.2.2.2.2.2.2.1, j1⟩
        generalize fnX4_advance (x.1, x.2.1, x.2.2.1, x.2.2.2.1, x.2.2.2.2.1, x.2.2.2.2.2.1, x.2.2.2.2.2.2.1, p1) = p6 at j6 ⊢
        have j7 : ivX2_becomeP (fnX2_become p6.2.2.2.2.1.1 p6.2.2.2.2.2.1) := ivX2_become p6.2.2.2.2.1.1 p6.2.2.2.2.2.1 j6.2.2.2.2.1.1 j6.2.2.2.2.2.1
        generalize fnX2_become p6.2.2.2.2.1.1 p6.2.2.2.2.2.1 = p7 at j7 ⊢
        have j8 : ivX2_becomeP (fnX2_become p6.2.2.2.2.2.1 p6.2.2.2.2.2.2.1) := ivX2_become p6.2.2.2.2.2.1 p6.2.2.2.2.2.2.1 j6.2.2.2.2.2.1 j6.2.2.2.2.2.2.1
        generalize fnX2_become p6.2.2.2.2.2.1 p6.2.2.2.2.2.2.1 = p8 at j8 ⊢
        exact ⟨(show i4 (0 : Int32) from by decide), ⟨j6.2.1, j6.2.2.1, j6.2.2.2.1, ⟨j7, j6.2.2.2.2.1.2.1, j6.2.2.2.2.1.2.2.1, j6.2.2.2.2.1.2.2.2⟩, ⟨j8.1, j8.2.1, (rcI j4 h5)⟩, j6.2.2.2.2.2.2.1, j6.2.2.2.2.2.2.2.1, j6.2.2.2.2.2.2.2.2⟩⟩
set_option maxRecDepth 100000 in
set_option maxHeartbeats 4000000 in
theorem okX4_callAddress (l : Launch) (D : va_G) (cI cJ cP : ClassId) (ad : Nat → Nat) (sz : Nat) (x : TR)  (hI : iR x) : Met l yX4_callAddress (Cond.code yX4_callAddress cX4_callAddress 3 (some .int) :: gG) { frames := 2, cells := 0, slots := 0, locals := 54 } (va_Pc [.ref (ad 0)] (PRE D (tz cI cJ cP) sz (wR cI cJ cP ad x))) (va_Qi (fun (r : Int32) (u : TR) => (r, u) = fnX4_callAddress x) (AT D (tz cI cJ cP) (va_A (wR cI cJ cP ad x) sz) (fun (u : TR) => (wR cI cJ cP ad u))) (va_A (wR cI cJ cP ad x) sz)) 0 0 (va_A (wR cI cJ cP ad x) sz) := by
  refine mo (QA := fun A => va_Qi (fun (r : Int32) (u : TR) => (r, u) = fnX4_callAddress x) (AT D (tz cI cJ cP) A (fun (u : TR) => (wR cI cJ cP ad u))) A) (by decide) (Nat.le_of_ble_eq_true rfl) ?_
  intro p e s m below meth c A ls H hx hb hr hml hown hG hlocks hnm hA hS hP hK hD hl hN
  have hown : s.vm.findClass RX4 = some m.cls := hown
  have hl : lv_has ls 3 [(0, .ref (ad 0))] := hl
  refine lv_aload_n hx hb dX4_callAddress_0 rfl (lv_at hl 0 rfl) ?_
  refine va_get (D := D) (ci := 4) (v := .ref (ad 1)) hx hb hG inX4 hown hK hP 0 rfl rfl 0 (by decide) (hG _ kw104) (fun _ h9 => h9) rfl dX4_callAddress_1 ?_
  refine lv_aload_n hx hb dX4_callAddress_4 rfl (lv_at hl 0 rfl) ?_
  refine va_get (D := D) (ci := 4) (v := .ref (ad 12)) hx hb hG inX4 hown hK hP 0 rfl rfl 6 (by decide) (hG _ kw124) (fun _ h9 => h9) rfl dX4_callAddress_5 ?_
  refine va_get (D := D) (ci := 2) (v := .int (x.2.2.2.2.2.1.1)) hx hb hG inX2 hown hK hP 12 rfl rfl 0 (by decide) (hG _ kw141) (fun _ h9 => h9) rfl dX4_callAddress_8 ?_
  refine lv_iconst (v := 1) hx hb dX4_callAddress_11 (by decide) ?_
  refine kVr (As := [.int (x.2.2.2.2.2.1.1), .int ((1 : Int32))]) (rest := []) (W' := (fun u1 => (wR cI cJ cP ad (x.1, x.2.1, x.2.2.1, x.2.2.2.1, x.2.2.2.2.1, x.2.2.2.2.2.1, x.2.2.2.2.2.2.1, u1)))) hx hb hml hown hG hl (okX3_lookForDescriptor l D cI cJ cP (fun i => ad (i + 1)) H.size x.2.2.2.2.2.2.2 x.2.2.2.2.2.1.1 (1 : Int32) hI.2.2.2.2.2.2.2 hI.2.2.2.2.2.1.1) (cV 2 hG kw59 kw142 kw62 kw63 kw60 hdX3_lookForDescriptor ⟨by decide, by decide⟩) 1 3 rfl rfl hK hP hD hS hA hN [1, 2, 3, 4, 5, 6, 7, 8, 9, 10, 11] rfl rfl rfl (fun _ => rfl) (fun _ => rfl) rfl rfl (Nat.le_of_ble_eq_true rfl) dX4_callAddress_12 ⟨Nat.zero_le _, Nat.zero_le _⟩ (fun u1 q1 H locs hP hD hS => ?_)
  have j1 : ivX3_lookForDescriptorP u1 := by rw [q1]; exact ivX3_lookForDescriptor x.2.2.2.2.2.2.2 x.2.2.2.2.2.1.1 (1 : Int32) hI.2.2.2.2.2.2.2 hI.2.2.2.2.2.1.1
  refine lv_astore_n (lv' := [(1, .ref (ad 11)), (0, .ref (ad 0))]) hx hb dX4_callAddress_15 rfl hl (by decide) rfl (fun ls hl => ?_)
  refine lv_aload_n hx hb dX4_callAddress_16 rfl (lv_at hl 0 rfl) ?_
  refine va_get (D := D) (ci := 1) (v := .int (u1.2.2.2.1)) hx hb hG inX1 hown hK hP 11 rfl rfl 0 (by decide) (hG _ kw143) (fun _ h9 => h9) rfl dX4_callAddress_17 ?_
  refine lv_if_ne (tgt := 25) hx hb dX4_callAddress_20 (by decide) (fun h2 => ?_) (fun h2 => ?_)
  · refine lv_aload_n hx hb dX4_callAddress_25 rfl (lv_at hl 0 rfl) ?_
    refine va_get (D := D) (ci := 1) (v := .int (u1.2.2.2.2.2.2.2.2.2.2.2.2.1)) hx hb hG inX1 hown hK hP 11 rfl rfl 9 (by decide) (hG _ kw144) (fun _ h9 => h9) rfl dX4_callAddress_26 ?_
    refine lv_if_ne (tgt := 34) hx hb dX4_callAddress_29 (by decide) (fun h3 => ?_) (fun h3 => ?_)
    · refine lv_aload_n hx hb dX4_callAddress_34 rfl (lv_at hl 0 rfl) ?_
      refine lv_aload_n hx hb dX4_callAddress_35 rfl (lv_at hl 1 rfl) ?_
      refine va_get (D := D) (ci := 4) (v := .ref (ad 12)) hx hb hG inX4 hown hK hP 0 rfl rfl 6 (by decide) (hG _ kw124) (fun _ h9 => h9) rfl dX4_callAddress_36 ?_
      refine va_get (D := D) (ci := 2) (v := .int (x.2.2.2.2.2.1.2.1)) hx hb hG inX2 hown hK hP 12 rfl rfl 1 (by decide) (hG _ kw88) (fun _ h9 => h9) rfl dX4_callAddress_39 ?_
      refine lv_aload_n hx hb dX4_callAddress_42 rfl (lv_at hl 1 rfl) ?_
      refine va_get (D := D) (ci := 4) (v := .ref (ad 12)) hx hb hG inX4 hown hK hP 0 rfl rfl 6 (by decide) (hG _ kw124) (fun _ h9 => h9) rfl dX4_callAddress_43 ?_
      refine va_get (D := D) (ci := 2) (v := .int (x.2.2.2.2.2.1.2.2)) hx hb hG inX2 hown hK hP 12 rfl rfl 2 (by decide) (hG _ kw119) (fun _ h9 => h9) rfl dX4_callAddress_46 ?_
      refine kVi (As := [.int (x.2.2.2.2.2.1.2.1), .int (x.2.2.2.2.2.1.2.2)]) (rest := []) (W' := (fun _ => (wR cI cJ cP ad (x.1, x.2.1, x.2.2.1, x.2.2.2.1, x.2.2.2.2.1, x.2.2.2.2.2.1, x.2.2.2.2.2.2.1, u1)))) hx hb hml hown hG hl (okX1_ringOfCall l D cI cJ cP (ad 11) H.size u1.2.2.2 x.2.2.2.2.2.1.2.1 x.2.2.2.2.2.1.2.2 j1.2.2.2 hI.2.2.2.2.2.1.2.2) (cV 2 hG kw145 kw146 kw147 kw148 kw43 hdX1_ringOfCall ⟨by decide, by decide⟩) 11 1 rfl rfl hK hP hD hS hA hN [11] rfl rfl rfl (fun _ => rfl) (fun _ => rfl) rfl rfl (Nat.le_of_ble_eq_true rfl) dX4_callAddress_49 ⟨Nat.zero_le _, Nat.zero_le _⟩ (fun r4 _ q4 H locs hP hD hS => ?_)
      have j4 : ivX1_ringOfCallP r4 := by rw [q4]; exact ivX1_ringOfCall u1.2.2.2 x.2.2.2.2.2.1.2.1 x.2.2.2.2.2.1.2.2 j1.2.2.2 hI.2.2.2.2.2.1.2.2
      refine lv_istore_n (lv' := [(2, .int (r4)), (1, .ref (ad 11)), (0, .ref (ad 0))]) hx hb dX4_callAddress_52 rfl hl (by decide) rfl (fun ls hl => ?_)
      refine lv_iload_n hx hb dX4_callAddress_53 rfl (lv_at hl 0 rfl) ?_
      refine lv_iconst (v := (-1)) hx hb dX4_callAddress_54 (by decide) ?_
      refine lv_icmp_ne (tgt := 60) hx hb dX4_callAddress_55 (by decide) (fun h5 => ?_) (fun h5 => ?_)
      · refine lv_aload_n hx hb dX4_callAddress_60 rfl (lv_at hl 2 rfl) ?_
        refine kFi (As := []) (rest := []) hx hb hml hown hG hl (okX4_advance l D cI cJ cP ad H.size (x.1, x.2.1, x.2.2.1, x.2.2.2.1, x.2.2.2.2.1, x.2.2.2.2.2.1, x.2.2.2.2.2.2.1, u1) ⟨hI.1, hI.2.1, hI.2.2.1, hI.2.2.2.1, hI.2.2.2.2.1, hI.2.2.2.2.2.1, hI.2.2.2.2.2.2.1, j1⟩) (cV 0 hG kw92 kw93 kw94 kw95 kw5 hdX4_advance ⟨by decide, by decide⟩) 0 4 rfl rfl hK hP hD hS hA hN rfl rfl (Nat.le_of_ble_eq_true rfl) dX4_callAddress_61 ⟨Nat.zero_le _, Nat.zero_le _⟩ (fun r6 u6 q6 H locs hP hD hS => ?_)
        have j6 : ivX4_advanceP (r6, u6) := by rw [q6]; exact ivX4_advance (x.1, x.2.1, x.2.2.1, x.2.2.2.1, x.2.2.2.2.1, x.2.2.2.2.2.1, x.2.2.2.2.2.2.1, u1) ⟨hI.1, hI.2.1, hI.2.2.1, hI.2.2.2.1, hI.2.2.2.2.1, hI.2.2.2.2.2.1, hI.2.2.2.2.2.2.1, j1⟩
        refine lv_pop hx hb dX4_callAddress_64 rfl ?_
        refine lv_aload_n hx hb dX4_callAddress_65 rfl (lv_at hl 2 rfl) ?_
        refine va_get (D := D) (ci := 4) (v := .ref (ad 14)) hx hb hG inX4 hown hK hP 0 rfl rfl 4 (by decide) (hG _ kw149) (fun _ h9 => h9) rfl dX4_callAddress_66 ?_
        refine lv_iconst (v := 0) hx hb dX4_callAddress_69 (by decide) ?_
        refine gq (D := D) (j := 0) (x := ad 15) hx hb hK hP 14 2 rfl rfl (inL (by decide)) (by decide) rfl dX4_callAddress_70 ?_
        refine lv_aload_n hx hb dX4_callAddress_71 rfl (lv_at hl 2 rfl) ?_
        refine va_get (D := D) (ci := 4) (v := .ref (ad 19)) hx hb hG inX4 hown hK hP 0 rfl rfl 5 (by decide) (hG _ kw87) (fun _ h9 => h9) rfl dX4_callAddress_72 ?_
        refine kVv (As := [.ref (ad 19)]) (rest := []) (W' := (fun u7 => (wR cI cJ cP ad (u6.1, u6.2.1, u6.2.2.1, (u7, u6.2.2.2.1.2.1, u6.2.2.2.1.2.2.1, u6.2.2.2.1.2.2.2), u6.2.2.2.2.1, u6.2.2.2.2.2.1, u6.2.2.2.2.2.2.1, u6.2.2.2.2.2.2.2)))) hx hb hml hown hG hl (okX2_become l D cI cJ cP (ad 15) (ad 19) H.size u6.2.2.2.1.1 u6.2.2.2.2.1 j6.2.2.2.2.1.1 j6.2.2.2.2.2.1) (cV 1 hG kw98 kw100 kw101 kw102 kw99 hdX2_become ⟨by decide, by decide⟩) 15 2 rfl rfl hK hP hD hS hA hN [15, 19] rfl rfl rfl (fun _ => rfl) (fun _ => rfl) rfl rfl (Nat.le_of_ble_eq_true rfl) dX4_callAddress_75 ⟨Nat.zero_le _, Nat.zero_le _⟩ (fun u7 q7 H locs hP hD hS => ?_)
        have j7 : ivX2_becomeP u7 := by rw [q7]; exact ivX2_become u6.2.2.2.1.1 u6.2.2.2.2.1 j6.2.2.2.2.1.1 j6.2.2.2.2.2.1
        refine lv_aload_n hx hb dX4_callAddress_78 rfl (lv_at hl 2 rfl) ?_
        refine va_get (D := D) (ci := 4) (v := .ref (ad 19)) hx hb hG inX4 hown hK hP 0 rfl rfl 5 (by decide) (hG _ kw87) (fun _ h9 => h9) rfl dX4_callAddress_79 ?_
        refine lv_aload_n hx hb dX4_callAddress_82 rfl (lv_at hl 2 rfl) ?_
        refine va_get (D := D) (ci := 4) (v := .ref (ad 12)) hx hb hG inX4 hown hK hP 0 rfl rfl 6 (by decide) (hG _ kw124) (fun _ h9 => h9) rfl dX4_callAddress_83 ?_
        refine kVv (As := [.ref (ad 12)]) (rest := []) (W' := (fun u8 => (wR cI cJ cP ad (u6.1, u6.2.1, u6.2.2.1, (u7, u6.2.2.2.1.2.1, u6.2.2.2.1.2.2.1, u6.2.2.2.1.2.2.2), u8, u6.2.2.2.2.2.1, u6.2.2.2.2.2.2.1, u6.2.2.2.2.2.2.2)))) hx hb hml hown hG hl (okX2_become l D cI cJ cP (ad 19) (ad 12) H.size u6.2.2.2.2.1 u6.2.2.2.2.2.1 j6.2.2.2.2.2.1 j6.2.2.2.2.2.2.1) (cV 1 hG kw98 kw100 kw101 kw102 kw99 hdX2_become ⟨by decide, by decide⟩) 19 2 rfl rfl hK hP hD hS hA hN [19, 12] rfl rfl rfl (fun _ => rfl) (fun _ => rfl) rfl rfl (Nat.le_of_ble_eq_true rfl) dX4_callAddress_86 ⟨Nat.zero_le _, Nat.zero_le _⟩ (fun u8 q8 H locs hP hD hS => ?_)
        have j8 : ivX2_becomeP u8 := by rw [q8]; exact ivX2_become u6.2.2.2.2.1 u6.2.2.2.2.2.1 j6.2.2.2.2.2.1 j6.2.2.2.2.2.2.1
        refine lv_aload_n hx hb dX4_callAddress_89 rfl (lv_at hl 2 rfl) ?_
        refine va_get (D := D) (ci := 4) (v := .ref (ad 19)) hx hb hG inX4 hown hK hP 0 rfl rfl 5 (by decide) (hG _ kw87) (fun _ h9 => h9) rfl dX4_callAddress_90 ?_
        refine lv_iload_n hx hb dX4_callAddress_93 rfl (lv_at hl 0 rfl) ?_
        refine pu (D := D) (ci := 2) (v := .int (r4)) (ty := .int) (W' := (wR cI cJ cP ad (u6.1, u6.2.1, u6.2.2.1, (u7, u6.2.2.2.1.2.1, u6.2.2.2.1.2.2.1, u6.2.2.2.1.2.2.2), (u8.1, u8.2.1, r4), u6.2.2.2.2.2.1, u6.2.2.2.2.2.2.1, u6.2.2.2.2.2.2.2))) hx hb hG inX2 tyX2 tyokX2 nmX2 hown hK hP hD hS 19 rfl rfl 2 (by decide) (hG _ kw119) (fun _ h9 => h9) rfl (by decide +kernel) rfl rfl (Nat.le_of_ble_eq_true rfl) dX4_callAddress_94 rfl (fun H locs hP hD hS => ?_)
        refine lv_iconst (v := 0) hx hb dX4_callAddress_97 (by decide) ?_
        exact reti (u := (u6.1, u6.2.1, u6.2.2.1, (u7, u6.2.2.2.1.2.1, u6.2.2.2.1.2.2.1, u6.2.2.2.1.2.2.2), (u8.1, u8.2.1, r4), u6.2.2.2.2.2.1, u6.2.2.2.2.2.2.1, u6.2.2.2.2.2.2.2)) hx hb hr hlocks hK hP hD hS dX4_callAddress_98 (by unfold fnX4_callAddress; rw [← q1]; (try dsimp only); rw [if_neg h2]; rw [if_neg h3]; rw [← q4]; (try dsimp only); rw [if_neg h5]; rw [← q6]; (try dsimp only); rw [← q7]; (try dsimp only); rw [← q8]; (try dsimp only); (try exact rfl))
      · refine lv_iconst (v := 5) hx hb dX4_callAddress_58 (by decide) ?_
        exact reti (u := (x.1, x.2.1, x.2.2.1, x.2.2.2.1, x.2.2.2.2.1, x.2.2.2.2.2.1, x.2.2.2.2.2.2.1, u1)) hx hb hr hlocks hK hP hD hS dX4_callAddress_59 (by unfold fnX4_callAddress; rw [← q1]; (try dsimp only); rw [if_neg h2]; rw [if_neg h3]; rw [← q4]; (try dsimp only); rw [if_pos h5]; (try exact rfl))
    · refine lv_iconst (v := 4) hx hb dX4_callAddress_32 (by decide) ?_
      exact reti (u := (x.1, x.2.1, x.2.2.1, x.2.2.2.1, x.2.2.2.2.1, x.2.2.2.2.2.1, x.2.2.2.2.2.2.1, u1)) hx hb hr hlocks hK hP hD hS dX4_callAddress_33 (by unfold fnX4_callAddress; rw [← q1]; (try dsimp only); rw [if_neg h2]; rw [if_pos h3]; (try exact rfl))
  · refine lv_iconst (v := 1) hx hb dX4_callAddress_23 (by decide) ?_
    exact reti (u := (x.1, x.2.1, x.2.2.1, x.2.2.2.1, x.2.2.2.2.1, x.2.2.2.2.2.1, x.2.2.2.2.2.2.1, u1)) hx hb hr hlocks hK hP hD hS dX4_callAddress_24 (by unfold fnX4_callAddress; rw [← q1]; (try dsimp only); rw [if_pos h2]; (try exact rfl))
def fnX4_returnByWord (x : TR)  : Int32 × TR :=
  let p1 := fnX3_read x.2.2.2.2.2.2.2 x.2.2.2.2.2.1 (0 : Int32)
  if (0 : Int64) ≤ p1.1 then
   let p3 := fnX4_field p1.1 (33 : Int32) (3 : Int32)
   if p3 = (1 : Int32) then
    let p5 := fnX2_takeFrom x.2.2.2.2.1 p1.1
    ((0 : Int32), (x.1, x.2.1, x.2.2.1, x.2.2.2.1, (p5.1, p5.2.1, (if (if x.2.2.2.2.1.2.2 < x.2.2.2.2.2.1.2.2 then x.2.2.2.2.2.1.2.2 else x.2.2.2.2.1.2.2) < p5.2.2 then p5.2.2 else (if x.2.2.2.2.1.2.2 < x.2.2.2.2.2.1.2.2 then x.2.2.2.2.2.1.2.2 else x.2.2.2.2.1.2.2))), x.2.2.2.2.2.1, x.2.2.2.2.2.2.1, p1.2))
   else
    ((6 : Int32), (x.1, x.2.1, x.2.2.1, x.2.2.2.1, x.2.2.2.2.1, x.2.2.2.2.2.1, x.2.2.2.2.2.2.1, p1.2))
  else
   let p6 := fnX4_faultOf p1.1
   (p6, (x.1, x.2.1, x.2.2.1, x.2.2.2.1, x.2.2.2.2.1, x.2.2.2.2.2.1, x.2.2.2.2.2.2.1, p1.2))
abbrev ivX4_returnByWordP (z : Int32 × TR) : Prop := i4 z.1 ∧ iR z.2
set_option maxRecDepth 100000 in
set_option maxHeartbeats 4000000 in
theorem ivX4_returnByWord (x : TR)  (hI : iR x) : ivX4_returnByWordP (fnX4_returnByWord x) := by
  unfold fnX4_returnByWord
  try dsimp only
  have j1 : ivX3_readP (fnX3_read x.2.2.2.2.2.2.2 x.2.2.2.2.2.1 (0 : Int32)) := ivX3_read x.2.2.2.2.2.2.2 x.2.2.2.2.2.1 (0 : Int32) hI.2.2.2.2.2.2.2 hI.2.2.2.2.2.1
  generalize fnX3_read x.2.2.2.2.2.2.2 x.2.2.2.2.2.1 (0 : Int32) = p1 at j1 ⊢
  refine iteI (fun h2 => ?_) (fun h2 => ?_)
  · have j3 : i3 (fnX4_field p1.1 (33 : Int32) (3 : Int32)) := (f3X p1.1 (33 : Int32))
    generalize fnX4_field p1.1 (33 : Int32) (3 : Int32) = p3 at j3 ⊢
    refine iteI (fun h4 => ?_) (fun h4 => ?_)
    · have j5 : ivX2_takeFromP (fnX2_takeFrom x.2.2.2.2.1 p1.1) := ivX2_takeFrom x.2.2.2.2.1 p1.1 hI.2.2.2.2.1
      generalize fnX2_takeFrom x.2.2.2.2.1 p1.1 = p5 at j5 ⊢
      exact ⟨(show i4 (0 : Int32) from by decide), ⟨hI.1, hI.2.1, hI.2.2.1, hI.2.2.2.1, ⟨j5.1, j5.2.1, (mx3 (mx3 hI.2.2.2.2.1.2.2 hI.2.2.2.2.2.1.2.2) j5.2.2)⟩, hI.2.2.2.2.2.1, hI.2.2.2.2.2.2.1, j1.2⟩⟩
    · exact ⟨(show i4 (6 : Int32) from by decide), ⟨hI.1, hI.2.1, hI.2.2.1, hI.2.2.2.1, hI.2.2.2.2.1, hI.2.2.2.2.2.1, hI.2.2.2.2.2.2.1, j1.2⟩⟩
  · have j6 : i4 (fnX4_faultOf p1.1) := (fltI j1.1 (Int64.not_le.mp h2))
    generalize fnX4_faultOf p1.1 = p6 at j6 ⊢
    exact ⟨j6, ⟨hI.1, hI.2.1, hI.2.2.1, hI.2.2.2.1, hI.2.2.2.2.1, hI.2.2.2.2.2.1, hI.2.2.2.2.2.2.1, j1.2⟩⟩
set_option maxRecDepth 100000 in
set_option maxHeartbeats 4000000 in
theorem okX4_returnByWord (l : Launch) (D : va_G) (cI cJ cP : ClassId) (ad : Nat → Nat) (sz : Nat) (x : TR)  (hI : iR x) : Met l yX4_returnByWord (Cond.code yX4_returnByWord cX4_returnByWord 4 (some .int) :: gG) { frames := 4, cells := 0, slots := 0, locals := 105 } (va_Pc [.ref (ad 0)] (PRE D (tz cI cJ cP) sz (wR cI cJ cP ad x))) (va_Qi (fun (r : Int32) (u : TR) => (r, u) = fnX4_returnByWord x) (AT D (tz cI cJ cP) (va_A (wR cI cJ cP ad x) sz) (fun (u : TR) => (wR cI cJ cP ad u))) (va_A (wR cI cJ cP ad x) sz)) 0 0 (va_A (wR cI cJ cP ad x) sz) := by
  refine mo (QA := fun A => va_Qi (fun (r : Int32) (u : TR) => (r, u) = fnX4_returnByWord x) (AT D (tz cI cJ cP) A (fun (u : TR) => (wR cI cJ cP ad u))) A) (by decide) (Nat.le_of_ble_eq_true rfl) ?_
  intro p e s m below meth c A ls H hx hb hr hml hown hG hlocks hnm hA hS hP hK hD hl hN
  have hown : s.vm.findClass RX4 = some m.cls := hown
  have hl : lv_has ls 4 [(0, .ref (ad 0))] := hl
  refine lv_aload_n hx hb dX4_returnByWord_0 rfl (lv_at hl 0 rfl) ?_
  refine va_get (D := D) (ci := 4) (v := .ref (ad 1)) hx hb hG inX4 hown hK hP 0 rfl rfl 0 (by decide) (hG _ kw104) (fun _ h9 => h9) rfl dX4_returnByWord_1 ?_
  refine lv_aload_n hx hb dX4_returnByWord_4 rfl (lv_at hl 0 rfl) ?_
  refine va_get (D := D) (ci := 4) (v := .ref (ad 12)) hx hb hG inX4 hown hK hP 0 rfl rfl 6 (by decide) (hG _ kw124) (fun _ h9 => h9) rfl dX4_returnByWord_5 ?_
  refine lv_iconst (v := 0) hx hb dX4_returnByWord_8 (by decide) ?_
  refine kVl (As := [.ref (ad 12), .int ((0 : Int32))]) (rest := []) (W' := (fun u1 => (wR cI cJ cP ad (x.1, x.2.1, x.2.2.1, x.2.2.2.1, x.2.2.2.2.1, x.2.2.2.2.2.1, x.2.2.2.2.2.2.1, u1)))) hx hb hml hown hG hl (okX3_read l D cI cJ cP (fun i => ad (i + 1)) H.size x.2.2.2.2.2.2.2 x.2.2.2.2.2.1 (0 : Int32) hI.2.2.2.2.2.2.2 hI.2.2.2.2.2.1) (cV 2 hG kw125 kw126 kw127 kw128 kw60 hdX3_read ⟨by decide, by decide⟩) 1 3 rfl rfl hK hP hD hS hA hN [1, 2, 3, 4, 5, 6, 7, 8, 9, 10, 11, 12] rfl rfl rfl (fun _ => rfl) (fun _ => rfl) rfl rfl (Nat.le_of_ble_eq_true rfl) dX4_returnByWord_9 ⟨Nat.zero_le _, Nat.zero_le _⟩ (fun r1 u1 q1 H locs hP hD hS => ?_)
  have j1 : ivX3_readP (r1, u1) := by rw [q1]; exact ivX3_read x.2.2.2.2.2.2.2 x.2.2.2.2.2.1 (0 : Int32) hI.2.2.2.2.2.2.2 hI.2.2.2.2.2.1
  refine lv_lstore_n (lv' := [(1, .long (r1)), (0, .ref (ad 0))]) hx hb dX4_returnByWord_12 rfl hl (by decide) rfl (fun ls hl => ?_)
  refine lv_lload_n hx hb dX4_returnByWord_13 rfl (lv_at hl 0 rfl) ?_
  refine lv_lconst (v := 0) hx hb dX4_returnByWord_14 (by decide) ?_
  refine lq_ge (tgt := 24) hx hb dX4_returnByWord_15 dX4_returnByWord_16 (by decide) (fun h2 => ?_) (fun h2 => ?_)
  · refine lv_lload_n hx hb dX4_returnByWord_24 rfl (lv_at hl 0 rfl) ?_
    refine lv_bipush (v := 33) hx hb dX4_returnByWord_25 (by decide) ?_
    refine lv_iconst (v := 3) hx hb dX4_returnByWord_27 (by decide) ?_
    refine k0Si (As := [.long (r1), .int ((33 : Int32)), .int ((3 : Int32))]) (rest := []) hx hb hml hown hG hl (okX4_field l D cI cJ cP  H.size r1 (33 : Int32) (3 : Int32) ) (cS 3 hG kw4 kw135 kw6 kw5 hdX4_field ⟨by decide, by decide⟩) hK hP hD hS hA hN rfl rfl (Nat.le_of_ble_eq_true rfl) dX4_returnByWord_28 ⟨Nat.zero_le _, Nat.zero_le _⟩ (fun r3 q3 H locs hP hD hS => ?_)
    have j3 : i3 r3 := by rw [q3]; exact (f3X r1 (33 : Int32))
    refine lv_iconst (v := 1) hx hb dX4_returnByWord_31 (by decide) ?_
    refine lv_icmp_eq (tgt := 38) hx hb dX4_returnByWord_32 (by decide) (fun h4 => ?_) (fun h4 => ?_)
    · refine lv_aload_n hx hb dX4_returnByWord_38 rfl (lv_at hl 1 rfl) ?_
      refine va_get (D := D) (ci := 4) (v := .ref (ad 19)) hx hb hG inX4 hown hK hP 0 rfl rfl 5 (by decide) (hG _ kw87) (fun _ h9 => h9) rfl dX4_returnByWord_39 ?_
      refine va_get (D := D) (ci := 2) (v := .int (x.2.2.2.2.1.2.2)) hx hb hG inX2 hown hK hP 19 rfl rfl 2 (by decide) (hG _ kw119) (fun _ h9 => h9) rfl dX4_returnByWord_42 ?_
      refine lv_aload_n hx hb dX4_returnByWord_45 rfl (lv_at hl 1 rfl) ?_
      refine va_get (D := D) (ci := 4) (v := .ref (ad 12)) hx hb hG inX4 hown hK hP 0 rfl rfl 6 (by decide) (hG _ kw124) (fun _ h9 => h9) rfl dX4_returnByWord_46 ?_
      refine va_get (D := D) (ci := 2) (v := .int (x.2.2.2.2.2.1.2.2)) hx hb hG inX2 hown hK hP 12 rfl rfl 2 (by decide) (hG _ kw119) (fun _ h9 => h9) rfl dX4_returnByWord_49 ?_
      refine va_mmax hx hb (hml.trans hl.1.symm) hown (hG _ kw150) (hG _ kw151) (hG _ kw152) (hG _ kw153) (by decide) (Nat.le_of_ble_eq_true rfl) (Nat.zero_le _) (Nat.zero_le _) dX4_returnByWord_52 ?_
      refine lv_istore_n (lv' := [(3, .int ((if x.2.2.2.2.1.2.2 < x.2.2.2.2.2.1.2.2 then x.2.2.2.2.2.1.2.2 else x.2.2.2.2.1.2.2))), (1, .long (r1)), (0, .ref (ad 0))]) hx hb dX4_returnByWord_55 rfl hl (by decide) rfl (fun ls hl => ?_)
      refine lv_aload_n hx hb dX4_returnByWord_56 rfl (lv_at hl 2 rfl) ?_
      refine va_get (D := D) (ci := 4) (v := .ref (ad 19)) hx hb hG inX4 hown hK hP 0 rfl rfl 5 (by decide) (hG _ kw87) (fun _ h9 => h9) rfl dX4_returnByWord_57 ?_
      refine lv_lload_n hx hb dX4_returnByWord_60 rfl (lv_at hl 1 rfl) ?_
      refine kVv (As := [.long (r1)]) (rest := []) (W' := (fun u5 => (wR cI cJ cP ad (x.1, x.2.1, x.2.2.1, x.2.2.2.1, u5, x.2.2.2.2.2.1, x.2.2.2.2.2.2.1, u1)))) hx hb hml hown hG hl (okX2_takeFrom l D cI cJ cP (ad 19) H.size x.2.2.2.2.1 r1 hI.2.2.2.2.1) (cV 1 hG kw154 kw155 kw156 kw157 kw99 hdX2_takeFrom ⟨by decide, by decide⟩) 19 2 rfl rfl hK hP hD hS hA hN [19] rfl rfl rfl (fun _ => rfl) (fun _ => rfl) rfl rfl (Nat.le_of_ble_eq_true rfl) dX4_returnByWord_61 ⟨Nat.zero_le _, Nat.zero_le _⟩ (fun u5 q5 H locs hP hD hS => ?_)
      have j5 : ivX2_takeFromP u5 := by rw [q5]; exact ivX2_takeFrom x.2.2.2.2.1 r1 hI.2.2.2.2.1
      refine lv_aload_n hx hb dX4_returnByWord_64 rfl (lv_at hl 2 rfl) ?_
      refine va_get (D := D) (ci := 4) (v := .ref (ad 19)) hx hb hG inX4 hown hK hP 0 rfl rfl 5 (by decide) (hG _ kw87) (fun _ h9 => h9) rfl dX4_returnByWord_65 ?_
      refine lv_iload_n hx hb dX4_returnByWord_68 rfl (lv_at hl 0 rfl) ?_
      refine lv_aload_n hx hb dX4_returnByWord_69 rfl (lv_at hl 2 rfl) ?_
      refine va_get (D := D) (ci := 4) (v := .ref (ad 19)) hx hb hG inX4 hown hK hP 0 rfl rfl 5 (by decide) (hG _ kw87) (fun _ h9 => h9) rfl dX4_returnByWord_70 ?_
      refine va_get (D := D) (ci := 2) (v := .int (u5.2.2)) hx hb hG inX2 hown hK hP 19 rfl rfl 2 (by decide) (hG _ kw119) (fun _ h9 => h9) rfl dX4_returnByWord_73 ?_
      refine va_mmax hx hb (hml.trans hl.1.symm) hown (hG _ kw150) (hG _ kw151) (hG _ kw152) (hG _ kw153) (by decide) (Nat.le_of_ble_eq_true rfl) (Nat.zero_le _) (Nat.zero_le _) dX4_returnByWord_76 ?_
      refine pu (D := D) (ci := 2) (v := .int ((if (if x.2.2.2.2.1.2.2 < x.2.2.2.2.2.1.2.2 then x.2.2.2.2.2.1.2.2 else x.2.2.2.2.1.2.2) < u5.2.2 then u5.2.2 else (if x.2.2.2.2.1.2.2 < x.2.2.2.2.2.1.2.2 then x.2.2.2.2.2.1.2.2 else x.2.2.2.2.1.2.2)))) (ty := .int) (W' := (wR cI cJ cP ad (x.1, x.2.1, x.2.2.1, x.2.2.2.1, (u5.1, u5.2.1, (if (if x.2.2.2.2.1.2.2 < x.2.2.2.2.2.1.2.2 then x.2.2.2.2.2.1.2.2 else x.2.2.2.2.1.2.2) < u5.2.2 then u5.2.2 else (if x.2.2.2.2.1.2.2 < x.2.2.2.2.2.1.2.2 then x.2.2.2.2.2.1.2.2 else x.2.2.2.2.1.2.2))), x.2.2.2.2.2.1, x.2.2.2.2.2.2.1, u1))) hx hb hG inX2 tyX2 tyokX2 nmX2 hown hK hP hD hS 19 rfl rfl 2 (by decide) (hG _ kw119) (fun _ h9 => h9) rfl (by decide +kernel) rfl rfl (Nat.le_of_ble_eq_true rfl) dX4_returnByWord_79 rfl (fun H locs hP hD hS => ?_)
      refine lv_iconst (v := 0) hx hb dX4_returnByWord_82 (by decide) ?_
      exact reti (u := (x.1, x.2.1, x.2.2.1, x.2.2.2.1, (u5.1, u5.2.1, (if (if x.2.2.2.2.1.2.2 < x.2.2.2.2.2.1.2.2 then x.2.2.2.2.2.1.2.2 else x.2.2.2.2.1.2.2) < u5.2.2 then u5.2.2 else (if x.2.2.2.2.1.2.2 < x.2.2.2.2.2.1.2.2 then x.2.2.2.2.2.1.2.2 else x.2.2.2.2.1.2.2))), x.2.2.2.2.2.1, x.2.2.2.2.2.2.1, u1)) hx hb hr hlocks hK hP hD hS dX4_returnByWord_83 (by unfold fnX4_returnByWord; rw [← q1]; (try dsimp only); rw [if_pos h2]; rw [← q3]; (try dsimp only); rw [if_pos h4]; rw [← q5]; (try dsimp only); (try exact rfl))
    · refine lv_bipush (v := 6) hx hb dX4_returnByWord_35 (by decide) ?_
      exact reti (u := (x.1, x.2.1, x.2.2.1, x.2.2.2.1, x.2.2.2.2.1, x.2.2.2.2.2.1, x.2.2.2.2.2.2.1, u1)) hx hb hr hlocks hK hP hD hS dX4_returnByWord_37 (by unfold fnX4_returnByWord; rw [← q1]; (try dsimp only); rw [if_pos h2]; rw [← q3]; (try dsimp only); rw [if_neg h4]; (try exact rfl))
  · refine lv_lload_n hx hb dX4_returnByWord_19 rfl (lv_at hl 0 rfl) ?_
    refine k0Si (As := [.long (r1)]) (rest := []) hx hb hml hown hG hl (okX4_faultOf l D cI cJ cP  H.size r1 ) (cS 1 hG kw85 kw136 kw86 kw5 hdX4_faultOf ⟨by decide, by decide⟩) hK hP hD hS hA hN rfl rfl (Nat.le_of_ble_eq_true rfl) dX4_returnByWord_20 ⟨Nat.zero_le _, Nat.zero_le _⟩ (fun r6 q6 H locs hP hD hS => ?_)
    have j6 : i4 r6 := by rw [q6]; exact (fltI j1.1 (Int64.not_le.mp h2))
    exact reti (u := (x.1, x.2.1, x.2.2.1, x.2.2.2.1, x.2.2.2.2.1, x.2.2.2.2.2.1, x.2.2.2.2.2.2.1, u1)) hx hb hr hlocks hK hP hD hS dX4_returnByWord_23 (by unfold fnX4_returnByWord; rw [← q1]; (try dsimp only); rw [if_neg h2]; rw [← q6]; (try dsimp only); (try exact rfl))
