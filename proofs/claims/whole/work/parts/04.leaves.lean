theorem dX4_field_0 : decode cX4_field 0 = .ok (.lload_n 0, 1) := by decide +kernel
theorem dX4_field_1 : decode cX4_field 1 = .ok (.iload_n 2, 1) := by decide +kernel
theorem dX4_field_2 : decode cX4_field 2 = .ok (.lshr, 1) := by decide +kernel
theorem dX4_field_3 : decode cX4_field 3 = .ok (.l2i, 1) := by decide +kernel
theorem dX4_field_4 : decode cX4_field 4 = .ok (.iconst 1, 1) := by decide +kernel
theorem dX4_field_5 : decode cX4_field 5 = .ok (.iload_n 3, 1) := by decide +kernel
theorem dX4_field_6 : decode cX4_field 6 = .ok (.ishl, 1) := by decide +kernel
theorem dX4_field_7 : decode cX4_field 7 = .ok (.iconst 1, 1) := by decide +kernel
theorem dX4_field_8 : decode cX4_field 8 = .ok (.isub, 1) := by decide +kernel
theorem dX4_field_9 : decode cX4_field 9 = .ok (.iand, 1) := by decide +kernel
theorem dX4_field_10 : decode cX4_field 10 = .ok (.ireturn, 1) := by decide +kernel
theorem dX4_sum_0 : decode cX4_sum 0 = .ok (.iload_n 0, 1) := by decide +kernel
theorem dX4_sum_1 : decode cX4_sum 1 = .ok (.iload_n 1, 1) := by decide +kernel
theorem dX4_sum_2 : decode cX4_sum 2 = .ok (.iadd, 1) := by decide +kernel
theorem dX4_sum_3 : decode cX4_sum 3 = .ok (.sipush 4095, 3) := by decide +kernel
theorem dX4_sum_6 : decode cX4_sum 6 = .ok (.iand, 1) := by decide +kernel
theorem dX4_sum_7 : decode cX4_sum 7 = .ok (.ireturn, 1) := by decide +kernel
theorem dX4_faultOf_0 : decode cX4_faultOf 0 = .ok (.ldc2_w 237, 3) := by decide +kernel
theorem dX4_faultOf_3 : decode cX4_faultOf 3 = .ok (.lload_n 0, 1) := by decide +kernel
theorem dX4_faultOf_4 : decode cX4_faultOf 4 = .ok (.lsub, 1) := by decide +kernel
theorem dX4_faultOf_5 : decode cX4_faultOf 5 = .ok (.l2i, 1) := by decide +kernel
theorem dX4_faultOf_6 : decode cX4_faultOf 6 = .ok (.ireturn, 1) := by decide +kernel
theorem dX2_become_0 : decode cX2_become 0 = .ok (.aload_n 0, 1) := by decide +kernel
theorem dX2_become_1 : decode cX2_become 1 = .ok (.aload_n 1, 1) := by decide +kernel
theorem dX2_become_2 : decode cX2_become 2 = .ok (.getfield 9, 3) := by decide +kernel
theorem dX2_become_5 : decode cX2_become 5 = .ok (.putfield 9, 3) := by decide +kernel
theorem dX2_become_8 : decode cX2_become 8 = .ok (.aload_n 0, 1) := by decide +kernel
theorem dX2_become_9 : decode cX2_become 9 = .ok (.aload_n 1, 1) := by decide +kernel
theorem dX2_become_10 : decode cX2_become 10 = .ok (.getfield 15, 3) := by decide +kernel
theorem dX2_become_13 : decode cX2_become 13 = .ok (.putfield 15, 3) := by decide +kernel
theorem dX2_become_16 : decode cX2_become 16 = .ok (.aload_n 0, 1) := by decide +kernel
theorem dX2_become_17 : decode cX2_become 17 = .ok (.aload_n 1, 1) := by decide +kernel
theorem dX2_become_18 : decode cX2_become 18 = .ok (.getfield 18, 3) := by decide +kernel
theorem dX2_become_21 : decode cX2_become 21 = .ok (.putfield 18, 3) := by decide +kernel
theorem dX2_become_24 : decode cX2_become 24 = .ok (.return_, 1) := by decide +kernel
theorem dX2_takeFrom_0 : decode cX2_takeFrom 0 = .ok (.aload_n 0, 1) := by decide +kernel
theorem dX2_takeFrom_1 : decode cX2_takeFrom 1 = .ok (.lload_n 1, 1) := by decide +kernel
theorem dX2_takeFrom_2 : decode cX2_takeFrom 2 = .ok (.bipush 24, 2) := by decide +kernel
theorem dX2_takeFrom_4 : decode cX2_takeFrom 4 = .ok (.iconst 4, 1) := by decide +kernel
theorem dX2_takeFrom_5 : decode cX2_takeFrom 5 = .ok (.invokestatic 21, 3) := by decide +kernel
theorem dX2_takeFrom_8 : decode cX2_takeFrom 8 = .ok (.putfield 9, 3) := by decide +kernel
theorem dX2_takeFrom_11 : decode cX2_takeFrom 11 = .ok (.aload_n 0, 1) := by decide +kernel
theorem dX2_takeFrom_12 : decode cX2_takeFrom 12 = .ok (.lload_n 1, 1) := by decide +kernel
theorem dX2_takeFrom_13 : decode cX2_takeFrom 13 = .ok (.iconst 0, 1) := by decide +kernel
theorem dX2_takeFrom_14 : decode cX2_takeFrom 14 = .ok (.bipush 12, 2) := by decide +kernel
theorem dX2_takeFrom_16 : decode cX2_takeFrom 16 = .ok (.invokestatic 21, 3) := by decide +kernel
theorem dX2_takeFrom_19 : decode cX2_takeFrom 19 = .ok (.putfield 15, 3) := by decide +kernel
theorem dX2_takeFrom_22 : decode cX2_takeFrom 22 = .ok (.aload_n 0, 1) := by decide +kernel
theorem dX2_takeFrom_23 : decode cX2_takeFrom 23 = .ok (.lload_n 1, 1) := by decide +kernel
theorem dX2_takeFrom_24 : decode cX2_takeFrom 24 = .ok (.bipush 21, 2) := by decide +kernel
theorem dX2_takeFrom_26 : decode cX2_takeFrom 26 = .ok (.iconst 3, 1) := by decide +kernel
theorem dX2_takeFrom_27 : decode cX2_takeFrom 27 = .ok (.invokestatic 21, 3) := by decide +kernel
theorem dX2_takeFrom_30 : decode cX2_takeFrom 30 = .ok (.putfield 18, 3) := by decide +kernel
theorem dX2_takeFrom_33 : decode cX2_takeFrom 33 = .ok (.return_, 1) := by decide +kernel
theorem dX2_asWord_0 : decode cX2_asWord 0 = .ok (.ldc2_w 25, 3) := by decide +kernel
theorem dX2_asWord_3 : decode cX2_asWord 3 = .ok (.aload_n 0, 1) := by decide +kernel
theorem dX2_asWord_4 : decode cX2_asWord 4 = .ok (.getfield 9, 3) := by decide +kernel
theorem dX2_asWord_7 : decode cX2_asWord 7 = .ok (.i2l, 1) := by decide +kernel
theorem dX2_asWord_8 : decode cX2_asWord 8 = .ok (.bipush 24, 2) := by decide +kernel
theorem dX2_asWord_10 : decode cX2_asWord 10 = .ok (.lshl, 1) := by decide +kernel
theorem dX2_asWord_11 : decode cX2_asWord 11 = .ok (.lor, 1) := by decide +kernel
theorem dX2_asWord_12 : decode cX2_asWord 12 = .ok (.aload_n 0, 1) := by decide +kernel
theorem dX2_asWord_13 : decode cX2_asWord 13 = .ok (.getfield 18, 3) := by decide +kernel
theorem dX2_asWord_16 : decode cX2_asWord 16 = .ok (.i2l, 1) := by decide +kernel
theorem dX2_asWord_17 : decode cX2_asWord 17 = .ok (.bipush 21, 2) := by decide +kernel
theorem dX2_asWord_19 : decode cX2_asWord 19 = .ok (.lshl, 1) := by decide +kernel
theorem dX2_asWord_20 : decode cX2_asWord 20 = .ok (.lor, 1) := by decide +kernel
theorem dX2_asWord_21 : decode cX2_asWord 21 = .ok (.aload_n 0, 1) := by decide +kernel
theorem dX2_asWord_22 : decode cX2_asWord 22 = .ok (.getfield 15, 3) := by decide +kernel
theorem dX2_asWord_25 : decode cX2_asWord 25 = .ok (.i2l, 1) := by decide +kernel
theorem dX2_asWord_26 : decode cX2_asWord 26 = .ok (.lor, 1) := by decide +kernel
theorem dX2_asWord_27 : decode cX2_asWord 27 = .ok (.lreturn, 1) := by decide +kernel
theorem kw0 : Cond.constantLong RX4 237 (-1) ∈ gG := inG 434 (by decide +kernel) (by decide +kernel)
theorem kw1 : Cond.fieldLink RX2 9 RX2 "segment" "I" ∈ gG := inG 162 (by decide +kernel) (by decide +kernel)
theorem kw2 : Cond.fieldLink RX2 15 RX2 "word" "I" ∈ gG := inG 166 (by decide +kernel) (by decide +kernel)
theorem kw3 : Cond.fieldLink RX2 18 RX2 "ring" "I" ∈ gG := inG 169 (by decide +kernel) (by decide +kernel)
theorem kw4 : Cond.code yX4_field cX4_field 4 (some .int) ∈ gG := inG 336 (by decide +kernel) (by decide +kernel)
theorem kw5 : Cond.initialized RX4 ∈ gG := inG 43 (by decide +kernel) (by decide +kernel)
theorem kw6 : Cond.static yX4_field ∈ gG := inG 335 (by decide +kernel) (by decide +kernel)
theorem kw7 : Cond.constantLong RX2 25 8589934592 ∈ gG := inG 240 (by decide +kernel) (by decide +kernel)
theorem hdX4_field : yX4_field.cls ≠ "java/lang/invoke/MethodHandle" ∧ yX4_field.cls ≠ "java/lang/invoke/VarHandle" ∧ (parseMethodDescriptor yX4_field.desc).map (fun d => d.parameters.length) = some 3 := by decide +kernel
def fnX4_field  (a0 : Int64) (a1 : Int32) (a2 : Int32) : Int32 :=
  (((a0 >>> ((a1).toInt64 &&& 63))).toInt32 &&& (((1 : Int32) <<< (a2 &&& 31)) - (1 : Int32)))
set_option maxRecDepth 100000 in
set_option maxHeartbeats 4000000 in
theorem okX4_field (l : Launch) (D : va_G) (cI cJ cP : ClassId)  (sz : Nat)  (a0 : Int64) (a1 : Int32) (a2 : Int32)  : Met l yX4_field (Cond.code yX4_field cX4_field 4 (some .int) :: gG) { frames := 0, cells := 0, slots := 0, locals := 0 } (va_Pc [.long a0, .int a1, .int a2] (PRE D (tz cI cJ cP) sz [])) (va_Qi (fun (r : Int32) (_ : Unit) => r = fnX4_field a0 a1 a2) (AT D (tz cI cJ cP) (va_A [] sz) (fun (_ : Unit) => [])) (va_A [] sz)) 0 0 (va_A [] sz) := by
  refine mo (QA := fun A => va_Qi (fun (r : Int32) (_ : Unit) => r = fnX4_field a0 a1 a2) (AT D (tz cI cJ cP) A (fun (_ : Unit) => [])) A) (by decide) (Nat.le_of_ble_eq_true rfl) ?_
  intro p e s m below meth c A ls H hx hb hr hml hown hG hlocks hnm hA hS hP hK hD hl hN
  have hown : s.vm.findClass RX4 = some m.cls := hown
  have hl : lv_has ls 4 [(0, .long a0), (2, .int a1), (3, .int a2)] := hl
  refine lv_lload_n hx hb dX4_field_0 rfl (lv_at hl 0 rfl) ?_
  refine lv_iload_n hx hb dX4_field_1 rfl (lv_at hl 1 rfl) ?_
  refine lv_lshr hx hb dX4_field_2 rfl ?_
  refine lv_l2i hx hb dX4_field_3 rfl ?_
  refine lv_iconst (v := 1) hx hb dX4_field_4 (by decide) ?_
  refine lv_iload_n hx hb dX4_field_5 rfl (lv_at hl 2 rfl) ?_
  refine lv_ishl hx hb dX4_field_6 ?_
  refine lv_iconst (v := 1) hx hb dX4_field_7 (by decide) ?_
  refine lv_isub hx hb dX4_field_8 ?_
  refine lv_iand hx hb dX4_field_9 ?_
  exact reti (u := ()) hx hb hr hlocks hK hP hD hS dX4_field_10 (by exact rfl)
theorem f2X (w : Int64) (n : Int32) : i2 (fnX4_field w n 2) := by unfold fnX4_field; rw [show (((1 : Int32) <<< ((2 : Int32) &&& 31)) - 1) = 3 from by decide]; exact mk2 _
theorem f3X (w : Int64) (n : Int32) : i3 (fnX4_field w n 3) := by unfold fnX4_field; rw [show (((1 : Int32) <<< ((3 : Int32) &&& 31)) - 1) = 7 from by decide]; exact mk3 _
theorem f4X (w : Int64) (n : Int32) : i4 (fnX4_field w n 4) := by unfold fnX4_field; rw [show (((1 : Int32) <<< ((4 : Int32) &&& 31)) - 1) = 15 from by decide]; exact mk4 _
theorem f12X (w : Int64) (n : Int32) : i12 (fnX4_field w n 12) := by unfold fnX4_field; rw [show (((1 : Int32) <<< ((12 : Int32) &&& 31)) - 1) = 4095 from by decide]; exact mk12 _
def fnX4_sum  (a0 : Int32) (a1 : Int32) : Int32 :=
  ((a0 + a1) &&& (4095 : Int32))
set_option maxRecDepth 100000 in
set_option maxHeartbeats 4000000 in
theorem okX4_sum (l : Launch) (D : va_G) (cI cJ cP : ClassId)  (sz : Nat)  (a0 : Int32) (a1 : Int32)  : Met l yX4_sum (Cond.code yX4_sum cX4_sum 2 (some .int) :: gG) { frames := 0, cells := 0, slots := 0, locals := 0 } (va_Pc [.int a0, .int a1] (PRE D (tz cI cJ cP) sz [])) (va_Qi (fun (r : Int32) (_ : Unit) => r = fnX4_sum a0 a1) (AT D (tz cI cJ cP) (va_A [] sz) (fun (_ : Unit) => [])) (va_A [] sz)) 0 0 (va_A [] sz) := by
  refine mo (QA := fun A => va_Qi (fun (r : Int32) (_ : Unit) => r = fnX4_sum a0 a1) (AT D (tz cI cJ cP) A (fun (_ : Unit) => [])) A) (by decide) (Nat.le_of_ble_eq_true rfl) ?_
  intro p e s m below meth c A ls H hx hb hr hml hown hG hlocks hnm hA hS hP hK hD hl hN
  have hown : s.vm.findClass RX4 = some m.cls := hown
  have hl : lv_has ls 2 [(0, .int a0), (1, .int a1)] := hl
  refine lv_iload_n hx hb dX4_sum_0 rfl (lv_at hl 0 rfl) ?_
  refine lv_iload_n hx hb dX4_sum_1 rfl (lv_at hl 1 rfl) ?_
  refine lv_iadd hx hb dX4_sum_2 ?_
  refine lv_sipush (v := 4095) hx hb dX4_sum_3 (by decide) ?_
  refine lv_iand hx hb dX4_sum_6 ?_
  exact reti (u := ()) hx hb hr hlocks hK hP hD hS dX4_sum_7 (by exact rfl)
theorem sumX (a b : Int32) : i12 (fnX4_sum a b) := mk12 _
def fnX4_faultOf  (a0 : Int64) : Int32 :=
  (((-1 : Int64) - a0)).toInt32
set_option maxRecDepth 100000 in
set_option maxHeartbeats 4000000 in
theorem okX4_faultOf (l : Launch) (D : va_G) (cI cJ cP : ClassId)  (sz : Nat)  (a0 : Int64)  : Met l yX4_faultOf (Cond.code yX4_faultOf cX4_faultOf 2 (some .int) :: gG) { frames := 0, cells := 0, slots := 0, locals := 0 } (va_Pc [.long a0] (PRE D (tz cI cJ cP) sz [])) (va_Qi (fun (r : Int32) (_ : Unit) => r = fnX4_faultOf a0) (AT D (tz cI cJ cP) (va_A [] sz) (fun (_ : Unit) => [])) (va_A [] sz)) 0 0 (va_A [] sz) := by
  refine mo (QA := fun A => va_Qi (fun (r : Int32) (_ : Unit) => r = fnX4_faultOf a0) (AT D (tz cI cJ cP) A (fun (_ : Unit) => [])) A) (by decide) (Nat.le_of_ble_eq_true rfl) ?_
  intro p e s m below meth c A ls H hx hb hr hml hown hG hlocks hnm hA hS hP hK hD hl hN
  have hown : s.vm.findClass RX4 = some m.cls := hown
  have hl : lv_has ls 2 [(0, .long a0)] := hl
  refine lv_ldc2 (v := (-1)) hx hb hown (hG _ kw0) dX4_faultOf_0 ?_
  refine lv_lload_n hx hb dX4_faultOf_3 rfl (lv_at hl 0 rfl) ?_
  refine lv_lsub hx hb dX4_faultOf_4 ?_
  refine lv_l2i hx hb dX4_faultOf_5 rfl ?_
  exact reti (u := ()) hx hb hr hlocks hK hP hD hS dX4_faultOf_6 (by exact rfl)
def fnX2_become (x : TP) (y : TP)  : TP :=
  (y.1, y.2.1, y.2.2)
abbrev ivX2_becomeP (z : TP) : Prop := iP z
set_option maxRecDepth 100000 in
set_option maxHeartbeats 4000000 in
theorem ivX2_become (x : TP) (y : TP)  (hI : iP x) (hJ : iP y) : ivX2_becomeP (fnX2_become x y) := by
  unfold fnX2_become
  try dsimp only
  exact ⟨hJ.1, hJ.2.1, hJ.2.2⟩
set_option maxRecDepth 100000 in
set_option maxHeartbeats 4000000 in
theorem okX2_become (l : Launch) (D : va_G) (cI cJ cP : ClassId) (h0 h1 : Nat) (sz : Nat) (x : TP) (y : TP)  (hI : iP x) (hJ : iP y) : Met l yX2_become (Cond.code yX2_become cX2_become 2 none :: gG) { frames := 0, cells := 0, slots := 0, locals := 0 } (va_Pc [.ref (h0), .ref (h1)] (PRE D (tz cI cJ cP) sz (wP2 h0 h1 x y))) (va_Qv (fun (u : TP) => u = fnX2_become x y) (AT D (tz cI cJ cP) (va_A (wP2 h0 h1 x y) sz) (fun (u : TP) => (wP2 h0 h1 u y))) (va_A (wP2 h0 h1 x y) sz)) 0 0 (va_A (wP2 h0 h1 x y) sz) := by
  refine mo (QA := fun A => va_Qv (fun (u : TP) => u = fnX2_become x y) (AT D (tz cI cJ cP) A (fun (u : TP) => (wP2 h0 h1 u y))) A) (by decide) (Nat.le_of_ble_eq_true rfl) ?_
  intro p e s m below meth c A ls H hx hb hr hml hown hG hlocks hnm hA hS hP hK hD hl hN
  have hown : s.vm.findClass RX2 = some m.cls := hown
  have hl : lv_has ls 2 [(0, .ref (h0)), (1, .ref (h1))] := hl
  refine lv_aload_n hx hb dX2_become_0 rfl (lv_at hl 0 rfl) ?_
  refine lv_aload_n hx hb dX2_become_1 rfl (lv_at hl 1 rfl) ?_
  refine va_get (D := D) (ci := 2) (v := .int (y.1)) hx hb hG inX2 hown hK hP 1 rfl rfl 0 (by decide) (hG _ kw1) (fun _ h9 => h9) rfl dX2_become_2 ?_
  refine pu (D := D) (ci := 2) (v := .int (y.1)) (ty := .int) (W' := (wP2 h0 h1 (y.1, x.2.1, x.2.2) y)) hx hb hG inX2 tyX2 tyokX2 nmX2 hown hK hP hD hS 0 rfl rfl 0 (by decide) (hG _ kw1) (fun _ h9 => h9) rfl (by decide +kernel) rfl rfl (Nat.le_of_ble_eq_true rfl) dX2_become_5 rfl (fun H locs hP hD hS => ?_)
  refine lv_aload_n hx hb dX2_become_8 rfl (lv_at hl 0 rfl) ?_
  refine lv_aload_n hx hb dX2_become_9 rfl (lv_at hl 1 rfl) ?_
  refine va_get (D := D) (ci := 2) (v := .int (y.2.1)) hx hb hG inX2 hown hK hP 1 rfl rfl 1 (by decide) (hG _ kw2) (fun _ h9 => h9) rfl dX2_become_10 ?_
  refine pu (D := D) (ci := 2) (v := .int (y.2.1)) (ty := .int) (W' := (wP2 h0 h1 (y.1, y.2.1, x.2.2) y)) hx hb hG inX2 tyX2 tyokX2 nmX2 hown hK hP hD hS 0 rfl rfl 1 (by decide) (hG _ kw2) (fun _ h9 => h9) rfl (by decide +kernel) rfl rfl (Nat.le_of_ble_eq_true rfl) dX2_become_13 rfl (fun H locs hP hD hS => ?_)
  refine lv_aload_n hx hb dX2_become_16 rfl (lv_at hl 0 rfl) ?_
  refine lv_aload_n hx hb dX2_become_17 rfl (lv_at hl 1 rfl) ?_
  refine va_get (D := D) (ci := 2) (v := .int (y.2.2)) hx hb hG inX2 hown hK hP 1 rfl rfl 2 (by decide) (hG _ kw3) (fun _ h9 => h9) rfl dX2_become_18 ?_
  refine pu (D := D) (ci := 2) (v := .int (y.2.2)) (ty := .int) (W' := (wP2 h0 h1 (y.1, y.2.1, y.2.2) y)) hx hb hG inX2 tyX2 tyokX2 nmX2 hown hK hP hD hS 0 rfl rfl 2 (by decide) (hG _ kw3) (fun _ h9 => h9) rfl (by decide +kernel) rfl rfl (Nat.le_of_ble_eq_true rfl) dX2_become_21 rfl (fun H locs hP hD hS => ?_)
  exact retv (u := (y.1, y.2.1, y.2.2)) hx hb hr hlocks hK hP hD hS dX2_become_24 (by exact rfl)
def fnX2_takeFrom (x : TP) (a0 : Int64) : TP :=
  let p1 := fnX4_field a0 (24 : Int32) (4 : Int32)
  let p2 := fnX4_field a0 (0 : Int32) (12 : Int32)
  let p3 := fnX4_field a0 (21 : Int32) (3 : Int32)
  (p1, p2, p3)
abbrev ivX2_takeFromP (z : TP) : Prop := iP z
set_option maxRecDepth 100000 in
set_option maxHeartbeats 4000000 in
theorem ivX2_takeFrom (x : TP) (a0 : Int64) (hI : iP x) : ivX2_takeFromP (fnX2_takeFrom x a0) := by
  unfold fnX2_takeFrom
  try dsimp only
  have j1 : i4 (fnX4_field a0 (24 : Int32) (4 : Int32)) := (f4X a0 (24 : Int32))
  generalize fnX4_field a0 (24 : Int32) (4 : Int32) = p1 at j1 ⊢
  have j2 : i12 (fnX4_field a0 (0 : Int32) (12 : Int32)) := (f12X a0 (0 : Int32))
  generalize fnX4_field a0 (0 : Int32) (12 : Int32) = p2 at j2 ⊢
  have j3 : i3 (fnX4_field a0 (21 : Int32) (3 : Int32)) := (f3X a0 (21 : Int32))
  generalize fnX4_field a0 (21 : Int32) (3 : Int32) = p3 at j3 ⊢
  exact ⟨j1, j2, j3⟩
set_option maxRecDepth 100000 in
set_option maxHeartbeats 4000000 in
theorem okX2_takeFrom (l : Launch) (D : va_G) (cI cJ cP : ClassId) (h0 : Nat) (sz : Nat) (x : TP) (a0 : Int64) (hI : iP x) : Met l yX2_takeFrom (Cond.code yX2_takeFrom cX2_takeFrom 3 none :: gG) { frames := 1, cells := 0, slots := 0, locals := 23 } (va_Pc [.ref (h0), .long a0] (PRE D (tz cI cJ cP) sz (wP h0 x))) (va_Qv (fun (u : TP) => u = fnX2_takeFrom x a0) (AT D (tz cI cJ cP) (va_A (wP h0 x) sz) (fun (u : TP) => (wP h0 u))) (va_A (wP h0 x) sz)) 0 0 (va_A (wP h0 x) sz) := by
  refine mo (QA := fun A => va_Qv (fun (u : TP) => u = fnX2_takeFrom x a0) (AT D (tz cI cJ cP) A (fun (u : TP) => (wP h0 u))) A) (by decide) (Nat.le_of_ble_eq_true rfl) ?_
  intro p e s m below meth c A ls H hx hb hr hml hown hG hlocks hnm hA hS hP hK hD hl hN
  have hown : s.vm.findClass RX2 = some m.cls := hown
  have hl : lv_has ls 3 [(0, .ref (h0)), (1, .long a0)] := hl
  refine lv_aload_n hx hb dX2_takeFrom_0 rfl (lv_at hl 0 rfl) ?_
  refine lv_lload_n hx hb dX2_takeFrom_1 rfl (lv_at hl 1 rfl) ?_
  refine lv_bipush (v := 24) hx hb dX2_takeFrom_2 (by decide) ?_
  refine lv_iconst (v := 4) hx hb dX2_takeFrom_4 (by decide) ?_
  refine k0SNi (As := [.long (a0), .int ((24 : Int32)), .int ((4 : Int32))]) (rest := [.ref (h0)]) hx hb hml hown hG hl (okX4_field l D cI cJ cP  H.size a0 (24 : Int32) (4 : Int32) ) (cSN 3 hG kw4 (hN _ (List.mem_of_getElem? (i := 4) rfl)) kw6 kw5 hdX4_field ⟨by decide, by decide⟩) hK hP hD hS hA hN rfl rfl (Nat.le_of_ble_eq_true rfl) dX2_takeFrom_5 ⟨Nat.zero_le _, Nat.zero_le _⟩ (fun r1 q1 H locs hP hD hS => ?_)
  have j1 : i4 r1 := by rw [q1]; exact (f4X a0 (24 : Int32))
  refine pu (D := D) (ci := 2) (v := .int (r1)) (ty := .int) (W' := (wP h0 (r1, x.2.1, x.2.2))) hx hb hG inX2 tyX2 tyokX2 nmX2 hown hK hP hD hS 0 rfl rfl 0 (by decide) (hG _ kw1) (fun _ h9 => h9) rfl (by decide +kernel) rfl rfl (Nat.le_of_ble_eq_true rfl) dX2_takeFrom_8 rfl (fun H locs hP hD hS => ?_)
  refine lv_aload_n hx hb dX2_takeFrom_11 rfl (lv_at hl 0 rfl) ?_
  refine lv_lload_n hx hb dX2_takeFrom_12 rfl (lv_at hl 1 rfl) ?_
  refine lv_iconst (v := 0) hx hb dX2_takeFrom_13 (by decide) ?_
  refine lv_bipush (v := 12) hx hb dX2_takeFrom_14 (by decide) ?_
  refine k0SNi (As := [.long (a0), .int ((0 : Int32)), .int ((12 : Int32))]) (rest := [.ref (h0)]) hx hb hml hown hG hl (okX4_field l D cI cJ cP  H.size a0 (0 : Int32) (12 : Int32) ) (cSN 3 hG kw4 (hN _ (List.mem_of_getElem? (i := 4) rfl)) kw6 kw5 hdX4_field ⟨by decide, by decide⟩) hK hP hD hS hA hN rfl rfl (Nat.le_of_ble_eq_true rfl) dX2_takeFrom_16 ⟨Nat.zero_le _, Nat.zero_le _⟩ (fun r2 q2 H locs hP hD hS => ?_)
  have j2 : i12 r2 := by rw [q2]; exact (f12X a0 (0 : Int32))
  refine pu (D := D) (ci := 2) (v := .int (r2)) (ty := .int) (W' := (wP h0 (r1, r2, x.2.2))) hx hb hG inX2 tyX2 tyokX2 nmX2 hown hK hP hD hS 0 rfl rfl 1 (by decide) (hG _ kw2) (fun _ h9 => h9) rfl (by decide +kernel) rfl rfl (Nat.le_of_ble_eq_true rfl) dX2_takeFrom_19 rfl (fun H locs hP hD hS => ?_)
  refine lv_aload_n hx hb dX2_takeFrom_22 rfl (lv_at hl 0 rfl) ?_
  refine lv_lload_n hx hb dX2_takeFrom_23 rfl (lv_at hl 1 rfl) ?_
  refine lv_bipush (v := 21) hx hb dX2_takeFrom_24 (by decide) ?_
  refine lv_iconst (v := 3) hx hb dX2_takeFrom_26 (by decide) ?_
  refine k0SNi (As := [.long (a0), .int ((21 : Int32)), .int ((3 : Int32))]) (rest := [.ref (h0)]) hx hb hml hown hG hl (okX4_field l D cI cJ cP  H.size a0 (21 : Int32) (3 : Int32) ) (cSN 3 hG kw4 (hN _ (List.mem_of_getElem? (i := 4) rfl)) kw6 kw5 hdX4_field ⟨by decide, by decide⟩) hK hP hD hS hA hN rfl rfl (Nat.le_of_ble_eq_true rfl) dX2_takeFrom_27 ⟨Nat.zero_le _, Nat.zero_le _⟩ (fun r3 q3 H locs hP hD hS => ?_)
  have j3 : i3 r3 := by rw [q3]; exact (f3X a0 (21 : Int32))
  refine pu (D := D) (ci := 2) (v := .int (r3)) (ty := .int) (W' := (wP h0 (r1, r2, r3))) hx hb hG inX2 tyX2 tyokX2 nmX2 hown hK hP hD hS 0 rfl rfl 2 (by decide) (hG _ kw3) (fun _ h9 => h9) rfl (by decide +kernel) rfl rfl (Nat.le_of_ble_eq_true rfl) dX2_takeFrom_30 rfl (fun H locs hP hD hS => ?_)
  exact retv (u := (r1, r2, r3)) hx hb hr hlocks hK hP hD hS dX2_takeFrom_33 (by subst q3; subst q2; subst q1; exact rfl)
def fnX2_asWord (x : TP)  : Int64 :=
  ((((8589934592 : Int64) ||| ((x.1).toInt64 <<< (((24 : Int32)).toInt64 &&& 63))) ||| ((x.2.2).toInt64 <<< (((21 : Int32)).toInt64 &&& 63))) ||| (x.2.1).toInt64)
set_option maxRecDepth 100000 in
set_option maxHeartbeats 4000000 in
theorem okX2_asWord (l : Launch) (D : va_G) (cI cJ cP : ClassId) (h0 : Nat) (sz : Nat) (x : TP)  (hI : iP x) : Met l yX2_asWord (Cond.code yX2_asWord cX2_asWord 1 (some .long) :: gG) { frames := 0, cells := 0, slots := 0, locals := 0 } (va_Pc [.ref (h0)] (PRE D (tz cI cJ cP) sz (wP h0 x))) (va_Ql (fun (r : Int64) (_ : Unit) => r = fnX2_asWord x) (AT D (tz cI cJ cP) (va_A (wP h0 x) sz) (fun (_ : Unit) => (wP h0 x))) (va_A (wP h0 x) sz)) 0 0 (va_A (wP h0 x) sz) := by
  refine mo (QA := fun A => va_Ql (fun (r : Int64) (_ : Unit) => r = fnX2_asWord x) (AT D (tz cI cJ cP) A (fun (_ : Unit) => (wP h0 x))) A) (by decide) (Nat.le_of_ble_eq_true rfl) ?_
  intro p e s m below meth c A ls H hx hb hr hml hown hG hlocks hnm hA hS hP hK hD hl hN
  have hown : s.vm.findClass RX2 = some m.cls := hown
  have hl : lv_has ls 1 [(0, .ref (h0))] := hl
  refine lv_ldc2 (v := 8589934592) hx hb hown (hG _ kw7) dX2_asWord_0 ?_
  refine lv_aload_n hx hb dX2_asWord_3 rfl (lv_at hl 0 rfl) ?_
  refine va_get (D := D) (ci := 2) (v := .int (x.1)) hx hb hG inX2 hown hK hP 0 rfl rfl 0 (by decide) (hG _ kw1) (fun _ h9 => h9) rfl dX2_asWord_4 ?_
  refine lv_i2l hx hb dX2_asWord_7 rfl ?_
  refine lv_bipush (v := 24) hx hb dX2_asWord_8 (by decide) ?_
  refine lv_lshl hx hb dX2_asWord_10 rfl ?_
  refine lv_lor hx hb dX2_asWord_11 ?_
  refine lv_aload_n hx hb dX2_asWord_12 rfl (lv_at hl 0 rfl) ?_
  refine va_get (D := D) (ci := 2) (v := .int (x.2.2)) hx hb hG inX2 hown hK hP 0 rfl rfl 2 (by decide) (hG _ kw3) (fun _ h9 => h9) rfl dX2_asWord_13 ?_
  refine lv_i2l hx hb dX2_asWord_16 rfl ?_
  refine lv_bipush (v := 21) hx hb dX2_asWord_17 (by decide) ?_
  refine lv_lshl hx hb dX2_asWord_19 rfl ?_
  refine lv_lor hx hb dX2_asWord_20 ?_
  refine lv_aload_n hx hb dX2_asWord_21 rfl (lv_at hl 0 rfl) ?_
  refine va_get (D := D) (ci := 2) (v := .int (x.2.1)) hx hb hG inX2 hown hK hP 0 rfl rfl 1 (by decide) (hG _ kw2) (fun _ h9 => h9) rfl dX2_asWord_22 ?_
  refine lv_i2l hx hb dX2_asWord_25 rfl ?_
  refine lv_lor hx hb dX2_asWord_26 ?_
  exact retl (u := ()) hx hb hr hlocks hK hP hD hS dX2_asWord_27 (by exact rfl)
