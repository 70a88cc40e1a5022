def fnX4_field  (a0 : Int64) (a1 : Int32) (a2 : Int32) : Int32 :=
  (((a0 >>> ((a1).toInt64 &&& 63))).toInt32 &&& (((1 : Int32) <<< (a2 &&& 31)) - (1 : Int32)))
set_option maxRecDepth 100000 in
set_option maxHeartbeats 4000000 in
theorem okX4_field (l : Launch) (D : va_G) (cI cJ cP : ClassId)  (sz : Nat)  (a0 : Int64) (a1 : Int32) (a2 : Int32)  : Met l yX4_field (Cond.code yX4_field cX4_field 4 (some .int) :: gG) { frames := 0, cells := 0, slots := 0, locals := 0 } (va_Pc [.long a0, .int a1, .int a2] (PRE D (tz cI cJ cP) sz [])) (va_Qi (fun (r : Int32) (_ : Unit) => r = fnX4_field a0 a1 a2) (AT D (tz cI cJ cP) (va_A [] sz) (fun (_ : Unit) => [])) (va_A [] sz)) 0 0 (va_A [] sz) := by
  refine mo (QA := fun A => va_Qi (fun (r : Int32) (_ : Unit) => r = fnX4_field a0 a1 a2) (AT D (tz cI cJ cP) A (fun (_ : Unit) => [])) A) (by decide) (Nat.le_of_ble_eq_true rfl) ?_
  intro p e s m below meth c A ls H hx hb hr hml hown hG hlocks hnm hA hS hP hK hD hl hN
  have hown : s.vm.findClass RX4 = some m.cls := hown
  have hl : lv_has ls 4 [(0, .long a0), (2, .int a1), (3, .int a2)] := hl
  refine lv_lload_n hx hb dX4_field_0 rfl (lv_at hl 0 rfl) ?_
  refine lv_iload_n hx hb dX4_field_1 rfl (lv_at hl 1 rfl) ?_
  refine lv_lshr hx hb dX4_field_2 rfl ?_
  refine lv_l2i hx hb dX4_field_3 rfl ?_
  refine lv_iconst (v := 1) hx hb dX4_field_4 (by decide) ?_
  refine lv_iload_n hx hb dX4_field_5 rfl (lv_at hl 2 rfl) ?_
  refine lv_ishl hx hb dX4_field_6 ?_
  refine lv_iconst (v := 1) hx hb dX4_field_7 (by decide) ?_
  refine lv_isub hx hb dX4_field_8 ?_
  refine lv_iand hx hb dX4_field_9 ?_
  exact reti (u := ()) hx hb hr hlocks hK hP hD hS dX4_field_10 (by unfold fnX4_field; (try exact rfl))
theorem f2X (w : Int64) (n : Int32) : i2 (fnX4_field w n 2) := by unfold fnX4_field; rw [show (((1 : Int32) <<< ((2 : Int32) &&& 31)) - 1) = 3 from by decide]; exact mk2 _
theorem f3X (w : Int64) (n : Int32) : i3 (fnX4_field w n 3) := by unfold fnX4_field; rw [show (((1 : Int32) <<< ((3 : Int32) &&& 31)) - 1) = 7 from by decide]; exact mk3 _
theorem f4X (w : Int64) (n : Int32) : i4 (fnX4_field w n 4) := by unfold fnX4_field; rw [show (((1 : Int32) <<< ((4 : Int32) &&& 31)) - 1) = 15 from by decide]; exact mk4 _
theorem f12X (w : Int64) (n : Int32) : i12 (fnX4_field w n 12) := by unfold fnX4_field; rw [show (((1 : Int32) <<< ((12 : Int32) &&& 31)) - 1) = 4095 from by decide]; exact mk12 _
def fnX4_sum  (a0 : Int32) (a1 : Int32) : Int32 :=
  ((a0 + a1) &&& (4095 : Int32))
set_option maxRecDepth 100000 in
set_option maxHeartbeats 4000000 in
theorem okX4_sum (l : Launch) (D : va_G) (cI cJ cP : ClassId)  (sz : Nat)  (a0 : Int32) (a1 : Int32)  : Met l yX4_sum (Cond.code yX4_sum cX4_sum 2 (some .int) :: gG) { frames := 0, cells := 0, slots := 0, locals := 0 } (va_Pc [.int a0, .int a1] (PRE D (tz cI cJ cP) sz [])) (va_Qi (fun (r : Int32) (_ : Unit) => r = fnX4_sum a0 a1) (AT D (tz cI cJ cP) (va_A [] sz) (fun (_ : Unit) => [])) (va_A [] sz)) 0 0 (va_A [] sz) := by
  refine mo (QA := fun A => va_Qi (fun (r : Int32) (_ : Unit) => r = fnX4_sum a0 a1) (AT D (tz cI cJ cP) A (fun (_ : Unit) => [])) A) (by decide) (Nat.le_of_ble_eq_true rfl) ?_
  intro p e s m below meth c A ls H hx hb hr hml hown hG hlocks hnm hA hS hP hK hD hl hN
  have hown : s.vm.findClass RX4 = some m.cls := hown
  have hl : lv_has ls 2 [(0, .int a0), (1, .int a1)] := hl
  refine lv_iload_n hx hb dX4_sum_0 rfl (lv_at hl 0 rfl) ?_
  refine lv_iload_n hx hb dX4_sum_1 rfl (lv_at hl 1 rfl) ?_
  refine lv_iadd hx hb dX4_sum_2 ?_
  refine lv_sipush (v := 4095) hx hb dX4_sum_3 (by decide) ?_
  refine lv_iand hx hb dX4_sum_6 ?_
  exact reti (u := ()) hx hb hr hlocks hK hP hD hS dX4_sum_7 (by unfold fnX4_sum; (try exact rfl))
theorem sumX (a b : Int32) : i12 (fnX4_sum a b) := mk12 _
def fnX4_faultOf  (a0 : Int64) : Int32 :=
  (((-1 : Int64) - a0)).toInt32
set_option maxRecDepth 100000 in
set_option maxHeartbeats 4000000 in
theorem okX4_faultOf (l : Launch) (D : va_G) (cI cJ cP : ClassId)  (sz : Nat)  (a0 : Int64)  : Met l yX4_faultOf (Cond.code yX4_faultOf cX4_faultOf 2 (some .int) :: gG) { frames := 0, cells := 0, slots := 0, locals := 0 } (va_Pc [.long a0] (PRE D (tz cI cJ cP) sz [])) (va_Qi (fun (r : Int32) (_ : Unit) => r = fnX4_faultOf a0) (AT D (tz cI cJ cP) (va_A [] sz) (fun (_ : Unit) => [])) (va_A [] sz)) 0 0 (va_A [] sz) := by
  refine mo (QA := fun A => va_Qi (fun (r : Int32) (_ : Unit) => r = fnX4_faultOf a0) (AT D (tz cI cJ cP) A (fun (_ : Unit) => [])) A) (by decide) (Nat.le_of_ble_eq_true rfl) ?_
  intro p e s m below meth c A ls H hx hb hr hml hown hG hlocks hnm hA hS hP hK hD hl hN
  have hown : s.vm.findClass RX4 = some m.cls := hown
  have hl : lv_has ls 2 [(0, .long a0)] := hl
  refine lv_ldc2 (v := (-1)) hx hb hown (hG _ kw0) dX4_faultOf_0 ?_
  refine lv_lload_n hx hb dX4_faultOf_3 rfl (lv_at hl 0 rfl) ?_
  refine lv_lsub hx hb dX4_faultOf_4 ?_
  refine lv_l2i hx hb dX4_faultOf_5 rfl ?_
  exact reti (u := ()) hx hb hr hlocks hK hP hD hS dX4_faultOf_6 (by unfold fnX4_faultOf; (try exact rfl))
theorem fltI {x : Int64} (h : ird x) (k : x < 0) : i4 (fnX4_faultOf x) := by
  rcases h with (h | h | h | h) | h
  · subst h; decide
  · subst h; decide
  · subst h; decide
  · subst h; decide
  · exact absurd k (fun z => by have := Int64.lt_iff_toInt_lt.mp z; rw [show (0 : Int64).toInt = 0 from by decide] at this; have := h.1; omega)
theorem i2lP {x : Int32} (h : x < 0) : x.toInt64 < 0 := by
  have := ltJ h
  rw [Int64.lt_iff_toInt_lt, Int32.toInt_toInt64]
  exact this
