def fnX2_become (x : TP) (y : TP)  : TP :=
  (y.1, y.2.1, y.2.2)
abbrev ivX2_becomeP (z : TP) : Prop := iP z
set_option maxRecDepth 100000 in
set_option maxHeartbeats 4000000 in
theorem ivX2_become (x : TP) (y : TP)  (hI : iP x) (hJ : iP y) : ivX2_becomeP (fnX2_become x y) := by
  unfold fnX2_become
  try dsimp only
  exact ⟨hJ.1, hJ.2.1, hJ.2.2⟩
set_option maxRecDepth 100000 in
set_option maxHeartbeats 4000000 in
theorem okX2_become (l : Launch) (D : va_G) (cI cJ cP : ClassId) (b0 b1 : Nat) (sz : Nat) (x : TP) (y : TP)  (hI : iP x) (hJ : iP y) : Met l yX2_become (Cond.code yX2_become cX2_become 2 none :: gG) { frames := 0, cells := 0, slots := 0, locals := 0 } (va_Pc [.ref (b0), .ref (b1)] (PRE D (tz cI cJ cP) sz (wP2 b0 b1 x y))) (va_Qv (fun (u : TP) => u = fnX2_become x y) (AT D (tz cI cJ cP) (va_A (wP2 b0 b1 x y) sz) (fun (u : TP) => (wP2 b0 b1 u y))) (va_A (wP2 b0 b1 x y) sz)) 0 0 (va_A (wP2 b0 b1 x y) sz) := by
  refine mo (QA := fun A => va_Qv (fun (u : TP) => u = fnX2_become x y) (AT D (tz cI cJ cP) A (fun (u : TP) => (wP2 b0 b1 u y))) A) (by decide) (Nat.le_of_ble_eq_true rfl) ?_
  intro p e s m below meth c A ls H hx hb hr hml hown hG hlocks hnm hA hS hP hK hD hl hN
  have hown : s.vm.findClass RX2 = some m.cls := hown
  have hl : lv_has ls 2 [(0, .ref (b0)), (1, .ref (b1))] := hl
  refine lv_aload_n hx hb dX2_become_0 rfl (lv_at hl 0 rfl) ?_
  refine lv_aload_n hx hb dX2_become_1 rfl (lv_at hl 1 rfl) ?_
  refine va_get (D := D) (ci := 2) (v := .int (y.1)) hx hb hG inX2 hown hK hP 1 rfl rfl 0 (by decide) (hG _ kw1) (fun _ h9 => h9) rfl dX2_become_2 ?_
  refine pu (D := D) (ci := 2) (v := .int (y.1)) (ty := .int) (W' := (wP2 b0 b1 (y.1, x.2.1, x.2.2) y)) hx hb hG inX2 tyX2 tyokX2 nmX2 hown hK hP hD hS 0 rfl rfl 0 (by decide) (hG _ kw1) (fun _ h9 => h9) rfl (by decide +kernel) rfl rfl (Nat.le_of_ble_eq_true rfl) dX2_become_5 rfl (fun H locs hP hD hS => ?_)
  refine lv_aload_n hx hb dX2_become_8 rfl (lv_at hl 0 rfl) ?_
  refine lv_aload_n hx hb dX2_become_9 rfl (lv_at hl 1 rfl) ?_
  refine va_get (D := D) (ci := 2) (v := .int (y.2.1)) hx hb hG inX2 hown hK hP 1 rfl rfl 1 (by decide) (hG _ kw2) (fun _ h9 => h9) rfl dX2_become_10 ?_
  refine pu (D := D) (ci := 2) (v := .int (y.2.1)) (ty := .int) (W' := (wP2 b0 b1 (y.1, y.2.1, x.2.2) y)) hx hb hG inX2 tyX2 tyokX2 nmX2 hown hK hP hD hS 0 rfl rfl 1 (by decide) (hG _ kw2) (fun _ h9 => h9) rfl (by decide +kernel) rfl rfl (Nat.le_of_ble_eq_true rfl) dX2_become_13 rfl (fun H locs hP hD hS => ?_)
  refine lv_aload_n hx hb dX2_become_16 rfl (lv_at hl 0 rfl) ?_
  refine lv_aload_n hx hb dX2_become_17 rfl (lv_at hl 1 rfl) ?_
  refine va_get (D := D) (ci := 2) (v := .int (y.2.2)) hx hb hG inX2 hown hK hP 1 rfl rfl 2 (by decide) (hG _ kw3) (fun _ h9 => h9) rfl dX2_become_18 ?_
  refine pu (D := D) (ci := 2) (v := .int (y.2.2)) (ty := .int) (W' := (wP2 b0 b1 (y.1, y.2.1, y.2.2) y)) hx hb hG inX2 tyX2 tyokX2 nmX2 hown hK hP hD hS 0 rfl rfl 2 (by decide) (hG _ kw3) (fun _ h9 => h9) rfl (by decide +kernel) rfl rfl (Nat.le_of_ble_eq_true rfl) dX2_become_21 rfl (fun H locs hP hD hS => ?_)
  exact retv (u := (y.1, y.2.1, y.2.2)) hx hb hr hlocks hK hP hD hS dX2_become_24 (by unfold fnX2_become; (try exact rfl))
def fnX2_takeFrom (x : TP) (a0 : Int64) : TP :=
  let p1 := fnX4_field a0 (24 : Int32) (4 : Int32)
  let p2 := fnX4_field a0 (0 : Int32) (12 : Int32)
  let p3 := fnX4_field a0 (21 : Int32) (3 : Int32)
  (p1, p2, p3)
abbrev ivX2_takeFromP (z : TP) : Prop := iP z
set_option maxRecDepth 100000 in
set_option maxHeartbeats 4000000 in
theorem ivX2_takeFrom (x : TP) (a0 : Int64) (hI : iP x) : ivX2_takeFromP (fnX2_takeFrom x a0) := by
  unfold fnX2_takeFrom
  try dsimp only
  have j1 : i4 (fnX4_field a0 (24 : Int32) (4 : Int32)) := (f4X a0 (24 : Int32))
  generalize fnX4_field a0 (24 : Int32) (4 : Int32) = p1 at j1 ⊢
  have j2 : i12 (fnX4_field a0 (0 : Int32) (12 : Int32)) := (f12X a0 (0 : Int32))
  generalize fnX4_field a0 (0 : Int32) (12 : Int32) = p2 at j2 ⊢
  have j3 : i3 (fnX4_field a0 (21 : Int32) (3 : Int32)) := (f3X a0 (21 : Int32))
  generalize fnX4_field a0 (21 : Int32) (3 : Int32) = p3 at j3 ⊢
  exact ⟨j1, j2, j3⟩
set_option maxRecDepth 100000 in
set_option maxHeartbeats 4000000 in
theorem okX2_takeFrom (l : Launch) (D : va_G) (cI cJ cP : ClassId) (b0 : Nat) (sz : Nat) (x : TP) (a0 : Int64) (hI : iP x) : Met l yX2_takeFrom (Cond.code yX2_takeFrom cX2_takeFrom 3 none :: gG) { frames := 1, cells := 0, slots := 0, locals := 23 } (va_Pc [.ref (b0), .long a0] (PRE D (tz cI cJ cP) sz (wP b0 x))) (va_Qv (fun (u : TP) => u = fnX2_takeFrom x a0) (AT D (tz cI cJ cP) (va_A (wP b0 x) sz) (fun (u : TP) => (wP b0 u))) (va_A (wP b0 x) sz)) 0 0 (va_A (wP b0 x) sz) := by
  refine mo (QA := fun A => va_Qv (fun (u : TP) => u = fnX2_takeFrom x a0) (AT D (tz cI cJ cP) A (fun (u : TP) => (wP b0 u))) A) (by decide) (Nat.le_of_ble_eq_true rfl) ?_
  intro p e s m below meth c A ls H hx hb hr hml hown hG hlocks hnm hA hS hP hK hD hl hN
  have hown : s.vm.findClass RX2 = some m.cls := hown
  have hl : lv_has ls 3 [(0, .ref (b0)), (1, .long a0)] := hl
  refine lv_aload_n hx hb dX2_takeFrom_0 rfl (lv_at hl 0 rfl) ?_
  refine lv_lload_n hx hb dX2_takeFrom_1 rfl (lv_at hl 1 rfl) ?_
  refine lv_bipush (v := 24) hx hb dX2_takeFrom_2 (by decide) ?_
  refine lv_iconst (v := 4) hx hb dX2_takeFrom_4 (by decide) ?_
  refine k0SNi (As := [.long (a0), .int ((24 : Int32)), .int ((4 : Int32))]) (rest := [.ref (b0)]) hx hb hml hown hG hl (okX4_field l D cI cJ cP  H.size a0 (24 : Int32) (4 : Int32) ) (cSN 3 hG kw4 (nl4 hN) kw6 kw5 hdX4_field ⟨by decide, by decide⟩) hK hP hD hS hA hN rfl rfl (Nat.le_of_ble_eq_true rfl) dX2_takeFrom_5 ⟨Nat.zero_le _, Nat.zero_le _⟩ (fun r1 q1 H locs hP hD hS => ?_)
  have j1 : i4 r1 := by rw [q1]; exact (f4X a0 (24 : Int32))
  refine pu (D := D) (ci := 2) (v := .int (r1)) (ty := .int) (W' := (wP b0 (r1, x.2.1, x.2.2))) hx hb hG inX2 tyX2 tyokX2 nmX2 hown hK hP hD hS 0 rfl rfl 0 (by decide) (hG _ kw1) (fun _ h9 => h9) rfl (by decide +kernel) rfl rfl (Nat.le_of_ble_eq_true rfl) dX2_takeFrom_8 rfl (fun H locs hP hD hS => ?_)
  refine lv_aload_n hx hb dX2_takeFrom_11 rfl (lv_at hl 0 rfl) ?_
  refine lv_lload_n hx hb dX2_takeFrom_12 rfl (lv_at hl 1 rfl) ?_
  refine lv_iconst (v := 0) hx hb dX2_takeFrom_13 (by decide) ?_
  refine lv_bipush (v := 12) hx hb dX2_takeFrom_14 (by decide) ?_
  refine k0SNi (As := [.long (a0), .int ((0 : Int32)), .int ((12 : Int32))]) (rest := [.ref (b0)]) hx hb hml hown hG hl (okX4_field l D cI cJ cP  H.size a0 (0 : Int32) (12 : Int32) ) (cSN 3 hG kw4 (nl4 hN) kw6 kw5 hdX4_field ⟨by decide, by decide⟩) hK hP hD hS hA hN rfl rfl (Nat.le_of_ble_eq_true rfl) dX2_takeFrom_16 ⟨Nat.zero_le _, Nat.zero_le _⟩ (fun r2 q2 H locs hP hD hS => ?_)
  have j2 : i12 r2 := by rw [q2]; exact (f12X a0 (0 : Int32))
  refine pu (D := D) (ci := 2) (v := .int (r2)) (ty := .int) (W' := (wP b0 (r1, r2, x.2.2))) hx hb hG inX2 tyX2 tyokX2 nmX2 hown hK hP hD hS 0 rfl rfl 1 (by decide) (hG _ kw2) (fun _ h9 => h9) rfl (by decide +kernel) rfl rfl (Nat.le_of_ble_eq_true rfl) dX2_takeFrom_19 rfl (fun H locs hP hD hS => ?_)
  refine lv_aload_n hx hb dX2_takeFrom_22 rfl (lv_at hl 0 rfl) ?_
  refine lv_lload_n hx hb dX2_takeFrom_23 rfl (lv_at hl 1 rfl) ?_
  refine lv_bipush (v := 21) hx hb dX2_takeFrom_24 (by decide) ?_
  refine lv_iconst (v := 3) hx hb dX2_takeFrom_26 (by decide) ?_
  refine k0SNi (As := [.long (a0), .int ((21 : Int32)), .int ((3 : Int32))]) (rest := [.ref (b0)]) hx hb hml hown hG hl (okX4_field l D cI cJ cP  H.size a0 (21 : Int32) (3 : Int32) ) (cSN 3 hG kw4 (nl4 hN) kw6 kw5 hdX4_field ⟨by decide, by decide⟩) hK hP hD hS hA hN rfl rfl (Nat.le_of_ble_eq_true rfl) dX2_takeFrom_27 ⟨Nat.zero_le _, Nat.zero_le _⟩ (fun r3 q3 H locs hP hD hS => ?_)
  have j3 : i3 r3 := by rw [q3]; exact (f3X a0 (21 : Int32))
  refine pu (D := D) (ci := 2) (v := .int (r3)) (ty := .int) (W' := (wP b0 (r1, r2, r3))) hx hb hG inX2 tyX2 tyokX2 nmX2 hown hK hP hD hS 0 rfl rfl 2 (by decide) (hG _ kw3) (fun _ h9 => h9) rfl (by decide +kernel) rfl rfl (Nat.le_of_ble_eq_true rfl) dX2_takeFrom_30 rfl (fun H locs hP hD hS => ?_)
  exact retv (u := (r1, r2, r3)) hx hb hr hlocks hK hP hD hS dX2_takeFrom_33 (by unfold fnX2_takeFrom; rw [← q1]; (try dsimp only); rw [← q2]; (try dsimp only); rw [← q3]; (try dsimp only); (try exact rfl))
def fnX2_asWord (x : TP)  : Int64 :=
  ((((8589934592 : Int64) ||| ((x.1).toInt64 <<< (((24 : Int32)).toInt64 &&& 63))) ||| ((x.2.2).toInt64 <<< (((21 : Int32)).toInt64 &&& 63))) ||| (x.2.1).toInt64)
abbrev ivX2_asWordP (z : Int64) : Prop := i36 z
set_option maxRecDepth 100000 in
set_option maxHeartbeats 4000000 in
theorem ivX2_asWord (x : TP)  (hI : iP x) : ivX2_asWordP (fnX2_asWord x) := by
  unfold fnX2_asWord
  try dsimp only
  exact (orW (orW (orW (show i36 (8589934592 : Int64) from by decide) (sh24 hI.1)) (sh21 hI.2.2)) (i2lW hI.2.1))
set_option maxRecDepth 100000 in
set_option maxHeartbeats 4000000 in
theorem okX2_asWord (l : Launch) (D : va_G) (cI cJ cP : ClassId) (b0 : Nat) (sz : Nat) (x : TP)  (hI : iP x) : Met l yX2_asWord (Cond.code yX2_asWord cX2_asWord 1 (some .long) :: gG) { frames := 0, cells := 0, slots := 0, locals := 0 } (va_Pc [.ref (b0)] (PRE D (tz cI cJ cP) sz (wP b0 x))) (va_Ql (fun (r : Int64) (_ : Unit) => r = fnX2_asWord x) (AT D (tz cI cJ cP) (va_A (wP b0 x) sz) (fun (_ : Unit) => (wP b0 x))) (va_A (wP b0 x) sz)) 0 0 (va_A (wP b0 x) sz) := by
  refine mo (QA := fun A => va_Ql (fun (r : Int64) (_ : Unit) => r = fnX2_asWord x) (AT D (tz cI cJ cP) A (fun (_ : Unit) => (wP b0 x))) A) (by decide) (Nat.le_of_ble_eq_true rfl) ?_
  intro p e s m below meth c A ls H hx hb hr hml hown hG hlocks hnm hA hS hP hK hD hl hN
  have hown : s.vm.findClass RX2 = some m.cls := hown
  have hl : lv_has ls 1 [(0, .ref (b0))] := hl
  refine lv_ldc2 (v := 8589934592) hx hb hown (hG _ kw7) dX2_asWord_0 ?_
  refine lv_aload_n hx hb dX2_asWord_3 rfl (lv_at hl 0 rfl) ?_
  refine va_get (D := D) (ci := 2) (v := .int (x.1)) hx hb hG inX2 hown hK hP 0 rfl rfl 0 (by decide) (hG _ kw1) (fun _ h9 => h9) rfl dX2_asWord_4 ?_
  refine lv_i2l hx hb dX2_asWord_7 rfl ?_
  refine lv_bipush (v := 24) hx hb dX2_asWord_8 (by decide) ?_
  refine lv_lshl hx hb dX2_asWord_10 rfl ?_
  refine lv_lor hx hb dX2_asWord_11 ?_
  refine lv_aload_n hx hb dX2_asWord_12 rfl (lv_at hl 0 rfl) ?_
  refine va_get (D := D) (ci := 2) (v := .int (x.2.2)) hx hb hG inX2 hown hK hP 0 rfl rfl 2 (by decide) (hG _ kw3) (fun _ h9 => h9) rfl dX2_asWord_13 ?_
  refine lv_i2l hx hb dX2_asWord_16 rfl ?_
  refine lv_bipush (v := 21) hx hb dX2_asWord_17 (by decide) ?_
  refine lv_lshl hx hb dX2_asWord_19 rfl ?_
  refine lv_lor hx hb dX2_asWord_20 ?_
  refine lv_aload_n hx hb dX2_asWord_21 rfl (lv_at hl 0 rfl) ?_
  refine va_get (D := D) (ci := 2) (v := .int (x.2.1)) hx hb hG inX2 hown hK hP 0 rfl rfl 1 (by decide) (hG _ kw2) (fun _ h9 => h9) rfl dX2_asWord_22 ?_
  refine lv_i2l hx hb dX2_asWord_25 rfl ?_
  refine lv_lor hx hb dX2_asWord_26 ?_
  exact retl (u := ()) hx hb hr hlocks hK hP hD hS dX2_asWord_27 (by unfold fnX2_asWord; (try exact rfl))
