def fnX3_markChanged (x : TS) (a0 : Int32) : TS :=
  if ((x.2.2.1.2.1 0) &&& (8589934592 : Int64)) = (0 : Int64) then
   let p2 := fnX4_sum x.2.2.2.2.2.1 a0
   ((vp_updL x.1 (p2).toNatClampNeg ((x.1 (p2).toNatClampNeg) ||| (8589934592 : Int64))), x.2.1, (x.2.2.1.1, (vp_updL x.2.2.1.2.1 0 ((x.2.2.1.2.1 0) ||| (8589934592 : Int64))), x.2.2.1.2.2.1, x.2.2.1.2.2.2), x.2.2.2)
  else
   x
abbrev ivX3_markChangedP (z : TS) : Prop := iS z
set_option maxRecDepth 100000 in
set_option maxHeartbeats 4000000 in
theorem ivX3_markChanged (x : TS) (a0 : Int32) (hI : iS x) : ivX3_markChangedP (fnX3_markChanged x a0) := by
  unfold fnX3_markChanged
  try dsimp only
  refine iteI (fun h1 => ?_) (fun h1 => ?_)
  · have j2 : i12 (fnX4_sum x.2.2.2.2.2.1 a0) := (sumX x.2.2.2.2.2.1 a0)
    generalize fnX4_sum x.2.2.2.2.2.1 a0 = p2 at j2 ⊢
    exact ⟨(upW hI.1 (orW (hI.1 (p2).toNatClampNeg) (show i36 (8589934592 : Int64) from by decide))), hI.2.1, ⟨(upW hI.2.2.1.1 (orW (hI.2.2.1.1 0) (show i36 (8589934592 : Int64) from by decide))), hI.2.2.1.2⟩, hI.2.2.2⟩
  · exact hI
set_option maxRecDepth 100000 in
set_option maxHeartbeats 4000000 in
theorem okX3_markChanged (l : Launch) (D : va_G) (cI cJ cP : ClassId) (ad : Nat → Nat) (sz : Nat) (x : TS) (a0 : Int32) (hI : iS x) : Met l yX3_markChanged (Cond.code yX3_markChanged cX3_markChanged 2 none :: gG) { frames := 1, cells := 0, slots := 0, locals := 21 } (va_Pc [.ref (ad 0), .int a0] (PRE D (tz cI cJ cP) sz (wS cI cJ ad x))) (va_Qv (fun (u : TS) => u = fnX3_markChanged x a0) (AT D (tz cI cJ cP) (va_A (wS cI cJ ad x) sz) (fun (u : TS) => (wS cI cJ ad u))) (va_A (wS cI cJ ad x) sz)) 0 0 (va_A (wS cI cJ ad x) sz) := by
  refine mo (QA := fun A => va_Qv (fun (u : TS) => u = fnX3_markChanged x a0) (AT D (tz cI cJ cP) A (fun (u : TS) => (wS cI cJ ad u))) A) (by decide) (Nat.le_of_ble_eq_true rfl) ?_
  intro p e s m below meth c A ls H hx hb hr hml hown hG hlocks hnm hA hS hP hK hD hl hN
  have hown : s.vm.findClass RX3 = some m.cls := hown
  have hl : lv_has ls 2 [(0, .ref (ad 0)), (1, .int a0)] := hl
  refine lv_aload_n hx hb dX3_markChanged_0 rfl (lv_at hl 0 rfl) ?_
  refine va_get (D := D) (ci := 3) (v := .ref (ad 6)) hx hb hG inX3 hown hK hP 0 rfl rfl 2 (by decide) (hG _ kw28) (fun _ h9 => h9) rfl dX3_markChanged_1 ?_
  refine va_get (D := D) (ci := 0) (v := .ref (ad 8)) hx hb hG inX0 hown hK hP 6 rfl rfl 1 (by decide) (hG _ kw29) (fun _ h9 => h9) rfl dX3_markChanged_4 ?_
  refine lv_iconst (v := 0) hx hb dX3_markChanged_7 (by decide) ?_
  refine gl (D := D) (j := 0) (f := x.2.2.1.2.1) hx hb hK hP 8 1 rfl rfl (inL (by decide)) (by decide) dX3_markChanged_8 ?_
  refine lv_ldc2 (v := 8589934592) hx hb hown (hG _ kw30) dX3_markChanged_9 ?_
  refine lv_land hx hb dX3_markChanged_12 ?_
  refine lv_lconst (v := 0) hx hb dX3_markChanged_13 (by decide) ?_
  refine lq_ne (tgt := 55) hx hb dX3_markChanged_14 dX3_markChanged_15 (by decide) (fun h1 => ?_) (fun h1 => ?_)
  · exact retv (u := x) hx hb hr hlocks hK hP hD hS dX3_markChanged_55 (by unfold fnX3_markChanged; (try dsimp only); rw [if_neg h1]; (try exact rfl))
  · refine lv_aload_n hx hb dX3_markChanged_18 rfl (lv_at hl 0 rfl) ?_
    refine va_get (D := D) (ci := 3) (v := .ref (ad 1)) hx hb hG inX3 hown hK hP 0 rfl rfl 0 (by decide) (hG _ kw31) (fun _ h9 => h9) rfl dX3_markChanged_19 ?_
    refine lv_aload_n hx hb dX3_markChanged_22 rfl (lv_at hl 0 rfl) ?_
    refine va_get (D := D) (ci := 3) (v := .ref (ad 10)) hx hb hG inX3 hown hK hP 0 rfl rfl 3 (by decide) (hG _ kw32) (fun _ h9 => h9) rfl dX3_markChanged_23 ?_
    refine va_get (D := D) (ci := 1) (v := .int (x.2.2.2.2.2.1)) hx hb hG inX1 hown hK hP 10 rfl rfl 2 (by decide) (hG _ kw33) (fun _ h9 => h9) rfl dX3_markChanged_26 ?_
    refine lv_iload_n hx hb dX3_markChanged_29 rfl (lv_at hl 1 rfl) ?_
    refine k0SNi (As := [.int (x.2.2.2.2.2.1), .int (a0)]) (rest := [.ref (ad 1)]) hx hb hml hown hG hl (okX4_sum l D cI cJ cP  H.size x.2.2.2.2.2.1 a0 ) (cSN 2 hG kw34 (nl5 hN) kw35 kw5 hdX4_sum ⟨by decide, by decide⟩) hK hP hD hS hA hN rfl rfl (Nat.le_of_ble_eq_true rfl) dX3_markChanged_30 ⟨Nat.zero_le _, Nat.zero_le _⟩ (fun r2 q2 H locs hP hD hS => ?_)
    have j2 : i12 r2 := by rw [q2]; exact (sumX x.2.2.2.2.2.1 a0)
    refine lv_dup2_11 hx hb dX3_markChanged_33 rfl rfl ?_
    refine gl (D := D) (j := (r2).toNatClampNeg) (f := x.1) hx hb hK hP 1 1 rfl rfl (in12 j2) rfl dX3_markChanged_34 ?_
    refine lv_ldc2 (v := 8589934592) hx hb hown (hG _ kw30) dX3_markChanged_35 ?_
    refine lv_lor hx hb dX3_markChanged_38 ?_
    refine sl (D := D) (j := (r2).toNatClampNeg) (f := x.1) (x := ((x.1 (r2).toNatClampNeg) ||| (8589934592 : Int64))) (W' := (wS cI cJ ad ((vp_updL x.1 (r2).toNatClampNeg ((x.1 (r2).toNatClampNeg) ||| (8589934592 : Int64))), x.2.1, x.2.2.1, x.2.2.2))) hx hb hK hP hD hS 1 1 rfl rfl (in12 j2) rfl dX3_markChanged_39 rfl (fun H locs hP hD hS => ?_)
    refine lv_aload_n hx hb dX3_markChanged_40 rfl (lv_at hl 0 rfl) ?_
    refine va_get (D := D) (ci := 3) (v := .ref (ad 6)) hx hb hG inX3 hown hK hP 0 rfl rfl 2 (by decide) (hG _ kw28) (fun _ h9 => h9) rfl dX3_markChanged_41 ?_
    refine va_get (D := D) (ci := 0) (v := .ref (ad 8)) hx hb hG inX0 hown hK hP 6 rfl rfl 1 (by decide) (hG _ kw29) (fun _ h9 => h9) rfl dX3_markChanged_44 ?_
    refine lv_iconst (v := 0) hx hb dX3_markChanged_47 (by decide) ?_
    refine lv_dup2_11 hx hb dX3_markChanged_48 rfl rfl ?_
    refine gl (D := D) (j := 0) (f := x.2.2.1.2.1) hx hb hK hP 8 1 rfl rfl (inL (by decide)) (by decide) dX3_markChanged_49 ?_
    refine lv_ldc2 (v := 8589934592) hx hb hown (hG _ kw30) dX3_markChanged_50 ?_
    refine lv_lor hx hb dX3_markChanged_53 ?_
    refine sl (D := D) (j := 0) (f := x.2.2.1.2.1) (x := ((x.2.2.1.2.1 0) ||| (8589934592 : Int64))) (W' := (wS cI cJ ad ((vp_updL x.1 (r2).toNatClampNeg ((x.1 (r2).toNatClampNeg) ||| (8589934592 : Int64))), x.2.1, (x.2.2.1.1, (vp_updL x.2.2.1.2.1 0 ((x.2.2.1.2.1 0) ||| (8589934592 : Int64))), x.2.2.1.2.2.1, x.2.2.1.2.2.2), x.2.2.2))) hx hb hK hP hD hS 8 1 rfl rfl (inL (by decide)) (by decide) dX3_markChanged_54 rfl (fun H locs hP hD hS => ?_)
    exact retv (u := ((vp_updL x.1 (r2).toNatClampNeg ((x.1 (r2).toNatClampNeg) ||| (8589934592 : Int64))), x.2.1, (x.2.2.1.1, (vp_updL x.2.2.1.2.1 0 ((x.2.2.1.2.1 0) ||| (8589934592 : Int64))), x.2.2.1.2.2.1, x.2.2.1.2.2.2), x.2.2.2)) hx hb hr hlocks hK hP hD hS dX3_markChanged_55 (by unfold fnX3_markChanged; (try dsimp only); rw [if_pos h1]; rw [← q2]; (try dsimp only); (try exact rfl))
def fnX3_lookForDescriptor (x : TS) (a0 : Int32) (a1 : Int32) : TS :=
  let p1 := fnX0_placeOf x.2.1 a0
  if p1 = (-1 : Int32) then
   let p3 := fnX1_become x.2.2.2 (x.1 (((2 : Int32) * a0)).toNatClampNeg) (x.1 ((((2 : Int32) * a0) + (1 : Int32))).toNatClampNeg)
   if a1 = (0 : Int32) then
    (x.1, x.2.1, x.2.2.1, p3)
   else
    if p3.1 = (0 : Int32) then
     (x.1, x.2.1, x.2.2.1, p3)
    else
     let p6 := fnX0_add x.2.1 a0 (x.1 (((2 : Int32) * a0)).toNatClampNeg) (x.1 ((((2 : Int32) * a0) + (1 : Int32))).toNatClampNeg)
     let p7 := fnX0_moveToFront p6.2 p6.1
     (x.1, p7, x.2.2.1, p3)
  else
   let p8 := fnX1_become x.2.2.2 (x.2.1.2.1 (p1).toNatClampNeg) (x.2.1.2.2.1 (p1).toNatClampNeg)
   if a1 = (0 : Int32) then
    (x.1, x.2.1, x.2.2.1, p8)
   else
    let p10 := fnX0_moveToFront x.2.1 p1
    (x.1, p10, x.2.2.1, p8)
abbrev ivX3_lookForDescriptorP (z : TS) : Prop := iS z
set_option maxRecDepth 100000 in
set_option maxHeartbeats 4000000 in
theorem ivX3_lookForDescriptor (x : TS) (a0 : Int32) (a1 : Int32) (hI : iS x) (g0 : i4 a0) : ivX3_lookForDescriptorP (fnX3_lookForDescriptor x a0 a1) := by
  unfold fnX3_lookForDescriptor
  try dsimp only
  have j1 : ivX0_placeOfP (fnX0_placeOf x.2.1 a0) := ivX0_placeOf x.2.1 a0 hI.2.1
  generalize fnX0_placeOf x.2.1 a0 = p1 at j1 ⊢
  refine iteI (fun h2 => ?_) (fun h2 => ?_)
  · have j3 : ivX1_becomeP (fnX1_become x.2.2.2 (x.1 (((2 : Int32) * a0)).toNatClampNeg) (x.1 ((((2 : Int32) * a0) + (1 : Int32))).toNatClampNeg)) := ivX1_become x.2.2.2 (x.1 (((2 : Int32) * a0)).toNatClampNeg) (x.1 ((((2 : Int32) * a0) + (1 : Int32))).toNatClampNeg) hI.2.2.2
    generalize fnX1_become x.2.2.2 (x.1 (((2 : Int32) * a0)).toNatClampNeg) (x.1 ((((2 : Int32) * a0) + (1 : Int32))).toNatClampNeg) = p3 at j3 ⊢
    refine iteI (fun h4 => ?_) (fun h4 => ?_)
    · exact ⟨hI.1, hI.2.1, hI.2.2.1, j3⟩
    · refine iteI (fun h5 => ?_) (fun h5 => ?_)
      · exact ⟨hI.1, hI.2.1, hI.2.2.1, j3⟩
      · have j6 : ivX0_addP (fnX0_add x.2.1 a0 (x.1 (((2 : Int32) * a0)).toNatClampNeg) (x.1 ((((2 : Int32) * a0) + (1 : Int32))).toNatClampNeg)) := ivX0_add x.2.1 a0 (x.1 (((2 : Int32) * a0)).toNatClampNeg) (x.1 ((((2 : Int32) * a0) + (1 : Int32))).toNatClampNeg) hI.2.1 (hI.1 (((2 : Int32) * a0)).toNatClampNeg)
        generalize fnX0_add x.2.1 a0 (x.1 (((2 : Int32) * a0)).toNatClampNeg) (x.1 ((((2 : Int32) * a0) + (1 : Int32))).toNatClampNeg) = p6 at j6 ⊢
        have j7 : ivX0_moveToFrontP (fnX0_moveToFront p6.2 p6.1) := ivX0_moveToFront p6.2 p6.1 j6.2 j6.1
        generalize fnX0_moveToFront p6.2 p6.1 = p7 at j7 ⊢
        exact ⟨hI.1, j7, hI.2.2.1, j3⟩
  · have j8 : ivX1_becomeP (fnX1_become x.2.2.2 (x.2.1.2.1 (p1).toNatClampNeg) (x.2.1.2.2.1 (p1).toNatClampNeg)) := ivX1_become x.2.2.2 (x.2.1.2.1 (p1).toNatClampNeg) (x.2.1.2.2.1 (p1).toNatClampNeg) hI.2.2.2
    generalize fnX1_become x.2.2.2 (x.2.1.2.1 (p1).toNatClampNeg) (x.2.1.2.2.1 (p1).toNatClampNeg) = p8 at j8 ⊢
    refine iteI (fun h9 => ?_) (fun h9 => ?_)
    · exact ⟨hI.1, hI.2.1, hI.2.2.1, j8⟩
    · have j10 : ivX0_moveToFrontP (fnX0_moveToFront x.2.1 p1) := ivX0_moveToFront x.2.1 p1 hI.2.1 (plI j1 h2)
      generalize fnX0_moveToFront x.2.1 p1 = p10 at j10 ⊢
      exact ⟨hI.1, j10, hI.2.2.1, j8⟩
set_option maxRecDepth 100000 in
set_option maxHeartbeats 4000000 in
theorem okX3_lookForDescriptor (l : Launch) (D : va_G) (cI cJ cP : ClassId) (ad : Nat → Nat) (sz : Nat) (x : TS) (a0 : Int32) (a1 : Int32) (hI : iS x) (g0 : i4 a0) : Met l yX3_lookForDescriptor (Cond.code yX3_lookForDescriptor cX3_lookForDescriptor 8 (some (.object "RingProcessor$Descriptor")) :: gG) { frames := 1, cells := 0, slots := 0, locals := 27 } (va_Pc [.ref (ad 0), .int a0, .int a1] (PRE D (tz cI cJ cP) sz (wS cI cJ ad x))) (va_Qr (fun (u : TS) => u = fnX3_lookForDescriptor x a0 a1) (fun u a t => a = ad 10 ∧ AT D (tz cI cJ cP) (va_A (wS cI cJ ad x) sz) (fun (u : TS) => (wS cI cJ ad u)) u t) (va_A (wS cI cJ ad x) sz)) 0 0 (va_A (wS cI cJ ad x) sz) := by
  refine mo (QA := fun A => va_Qr (fun (u : TS) => u = fnX3_lookForDescriptor x a0 a1) (fun u a t => a = ad 10 ∧ AT D (tz cI cJ cP) A (fun (u : TS) => (wS cI cJ ad u)) u t) A) (by decide) (Nat.le_of_ble_eq_true rfl) ?_
  intro p e s m below meth c A ls H hx hb hr hml hown hG hlocks hnm hA hS hP hK hD hl hN
  have hown : s.vm.findClass RX3 = some m.cls := hown
  have hl : lv_has ls 8 [(0, .ref (ad 0)), (1, .int a0), (2, .int a1)] := hl
  refine lv_aload_n hx hb dX3_lookForDescriptor_0 rfl (lv_at hl 0 rfl) ?_
  refine va_get (D := D) (ci := 3) (v := .ref (ad 2)) hx hb hG inX3 hown hK hP 0 rfl rfl 1 (by decide) (hG _ kw36) (fun _ h9 => h9) rfl dX3_lookForDescriptor_1 ?_
  refine lv_iload_n hx hb dX3_lookForDescriptor_4 rfl (lv_at hl 1 rfl) ?_
  refine kVi (As := [.int (a0)]) (rest := []) (W' := (fun _ => (wS cI cJ ad x))) hx hb hml hown hG hl (okX0_placeOf l D cI cJ cP (ad 2) (ad 3) (ad 4) (ad 5) H.size x.2.1 a0 hI.2.1) (cV 1 hG kw37 kw39 kw40 kw41 kw38 hdX0_placeOf ⟨by decide, by decide⟩) 2 0 rfl rfl hK hP hD hS hA hN [2, 3, 4, 5] rfl rfl rfl (fun _ => rfl) (fun _ => rfl) rfl rfl (Nat.le_of_ble_eq_true rfl) dX3_lookForDescriptor_5 ⟨Nat.zero_le _, Nat.zero_le _⟩ (fun r1 _ q1 H locs hP hD hS => ?_)
  have j1 : ivX0_placeOfP r1 := by rw [q1]; exact ivX0_placeOf x.2.1 a0 hI.2.1
  refine lv_istore_n (lv' := [(3, .int (r1)), (0, .ref (ad 0)), (1, .int (a0)), (2, .int (a1))]) hx hb dX3_lookForDescriptor_8 rfl hl (by decide) rfl (fun ls hl => ?_)
  refine lv_iload_n hx hb dX3_lookForDescriptor_9 rfl (lv_at hl 0 rfl) ?_
  refine lv_iconst (v := (-1)) hx hb dX3_lookForDescriptor_10 (by decide) ?_
  refine lv_icmp_eq (tgt := 42) hx hb dX3_lookForDescriptor_11 (by decide) (fun h2 => ?_) (fun h2 => ?_)
  · refine lv_aload_n hx hb dX3_lookForDescriptor_42 rfl (lv_at hl 1 rfl) ?_
    refine va_get (D := D) (ci := 3) (v := .ref (ad 1)) hx hb hG inX3 hown hK hP 0 rfl rfl 0 (by decide) (hG _ kw31) (fun _ h9 => h9) rfl dX3_lookForDescriptor_43 ?_
    refine lv_iconst (v := 2) hx hb dX3_lookForDescriptor_46 (by decide) ?_
    refine lv_iload_n hx hb dX3_lookForDescriptor_47 rfl (lv_at hl 2 rfl) ?_
    refine lv_imul hx hb dX3_lookForDescriptor_48 ?_
    refine gl (D := D) (j := (((2 : Int32) * a0)).toNatClampNeg) (f := x.1) hx hb hK hP 1 1 rfl rfl (in12 (seg2 g0).1) rfl dX3_lookForDescriptor_49 ?_
    refine lv_lstore (lv' := [(4, .long ((x.1 (((2 : Int32) * a0)).toNatClampNeg))), (3, .int (r1)), (0, .ref (ad 0)), (1, .int (a0)), (2, .int (a1))]) hx hb dX3_lookForDescriptor_50 hl (by decide) rfl (fun ls hl => ?_)
    refine lv_aload_n hx hb dX3_lookForDescriptor_52 rfl (lv_at hl 2 rfl) ?_
    refine va_get (D := D) (ci := 3) (v := .ref (ad 1)) hx hb hG inX3 hown hK hP 0 rfl rfl 0 (by decide) (hG _ kw31) (fun _ h9 => h9) rfl dX3_lookForDescriptor_53 ?_
    refine lv_iconst (v := 2) hx hb dX3_lookForDescriptor_56 (by decide) ?_
    refine lv_iload_n hx hb dX3_lookForDescriptor_57 rfl (lv_at hl 3 rfl) ?_
    refine lv_imul hx hb dX3_lookForDescriptor_58 ?_
    refine lv_iconst (v := 1) hx hb dX3_lookForDescriptor_59 (by decide) ?_
    refine lv_iadd hx hb dX3_lookForDescriptor_60 ?_
    refine gl (D := D) (j := ((((2 : Int32) * a0) + (1 : Int32))).toNatClampNeg) (f := x.1) hx hb hK hP 1 1 rfl rfl (in12 (seg2 g0).2) rfl dX3_lookForDescriptor_61 ?_
    refine lv_lstore (lv' := [(6, .long ((x.1 ((((2 : Int32) * a0) + (1 : Int32))).toNatClampNeg))), (4, .long ((x.1 (((2 : Int32) * a0)).toNatClampNeg))), (3, .int (r1)), (0, .ref (ad 0)), (1, .int (a0)), (2, .int (a1))]) hx hb dX3_lookForDescriptor_62 hl (by decide) rfl (fun ls hl => ?_)
    refine lv_aload_n hx hb dX3_lookForDescriptor_64 rfl (lv_at hl 3 rfl) ?_
    refine va_get (D := D) (ci := 3) (v := .ref (ad 10)) hx hb hG inX3 hown hK hP 0 rfl rfl 3 (by decide) (hG _ kw32) (fun _ h9 => h9) rfl dX3_lookForDescriptor_65 ?_
    refine lv_lload hx hb dX3_lookForDescriptor_68 (lv_at hl 1 rfl) ?_
    refine lv_lload hx hb dX3_lookForDescriptor_70 (lv_at hl 0 rfl) ?_
    refine kVv (As := [.long ((x.1 (((2 : Int32) * a0)).toNatClampNeg)), .long ((x.1 ((((2 : Int32) * a0) + (1 : Int32))).toNatClampNeg))]) (rest := []) (W' := (fun u3 => (wS cI cJ ad (x.1, x.2.1, x.2.2.1, u3)))) hx hb hml hown hG hl (okX1_become l D cI cJ cP (ad 10) H.size x.2.2.2 (x.1 (((2 : Int32) * a0)).toNatClampNeg) (x.1 ((((2 : Int32) * a0) + (1 : Int32))).toNatClampNeg) hI.2.2.2) (cV 2 hG kw42 kw44 kw45 kw46 kw43 hdX1_become ⟨by decide, by decide⟩) 10 1 rfl rfl hK hP hD hS hA hN [10] rfl rfl rfl (fun _ => rfl) (fun _ => rfl) rfl rfl (Nat.le_of_ble_eq_true rfl) dX3_lookForDescriptor_72 ⟨Nat.zero_le _, Nat.zero_le _⟩ (fun u3 q3 H locs hP hD hS => ?_)
    have j3 : ivX1_becomeP u3 := by rw [q3]; exact ivX1_become x.2.2.2 (x.1 (((2 : Int32) * a0)).toNatClampNeg) (x.1 ((((2 : Int32) * a0) + (1 : Int32))).toNatClampNeg) hI.2.2.2
    refine lv_iload_n hx hb dX3_lookForDescriptor_75 rfl (lv_at hl 5 rfl) ?_
    refine lv_if_eq (tgt := 102) hx hb dX3_lookForDescriptor_76 (by decide) (fun h4 => ?_) (fun h4 => ?_)
    · refine lv_iload_n hx hb dX3_lookForDescriptor_102 rfl (lv_at hl 5 rfl) ?_
      refine lv_if_eq (tgt := 119) hx hb dX3_lookForDescriptor_103 (by decide) (fun _ => ?_) (fun h9 => absurd h4 h9)
      refine lv_aload_n hx hb dX3_lookForDescriptor_119 rfl (lv_at hl 3 rfl) ?_
      refine va_get (D := D) (ci := 3) (v := .ref (ad 10)) hx hb hG inX3 hown hK hP 0 rfl rfl 3 (by decide) (hG _ kw32) (fun _ h9 => h9) rfl dX3_lookForDescriptor_120 ?_
      exact retr (u := (x.1, x.2.1, x.2.2.1, u3)) hx hb hr hlocks (Or.inl ⟨_, rfl⟩) hK hP hD hS dX3_lookForDescriptor_123 (by unfold fnX3_lookForDescriptor; rw [← q1]; (try dsimp only); rw [if_pos h2]; rw [← q3]; (try dsimp only); rw [if_pos h4]; (try exact rfl))
    · refine lv_aload_n hx hb dX3_lookForDescriptor_79 rfl (lv_at hl 3 rfl) ?_
      refine va_get (D := D) (ci := 3) (v := .ref (ad 10)) hx hb hG inX3 hown hK hP 0 rfl rfl 3 (by decide) (hG _ kw32) (fun _ h9 => h9) rfl dX3_lookForDescriptor_80 ?_
      refine va_get (D := D) (ci := 1) (v := .int (u3.1)) hx hb hG inX1 hown hK hP 10 rfl rfl 0 (by decide) (hG _ kw47) (fun _ h9 => h9) rfl dX3_lookForDescriptor_83 ?_
      refine lv_if_eq (tgt := 102) hx hb dX3_lookForDescriptor_86 (by decide) (fun h5 => ?_) (fun h5 => ?_)
      · refine lv_iload_n hx hb dX3_lookForDescriptor_102 rfl (lv_at hl 5 rfl) ?_
        refine lv_if_eq (tgt := 119) hx hb dX3_lookForDescriptor_103 (by decide) (fun h9 => absurd h9 h4) (fun _ => ?_)
        refine lv_iload_n hx hb dX3_lookForDescriptor_106 rfl (lv_at hl 2 rfl) ?_
        refine lv_iconst (v := (-1)) hx hb dX3_lookForDescriptor_107 (by decide) ?_
        refine lv_icmp_eq (tgt := 119) hx hb dX3_lookForDescriptor_108 (by decide) (fun _ => ?_) (fun h9 => absurd h2 h9)
        refine lv_aload_n hx hb dX3_lookForDescriptor_119 rfl (lv_at hl 3 rfl) ?_
        refine va_get (D := D) (ci := 3) (v := .ref (ad 10)) hx hb hG inX3 hown hK hP 0 rfl rfl 3 (by decide) (hG _ kw32) (fun _ h9 => h9) rfl dX3_lookForDescriptor_120 ?_
        exact retr (u := (x.1, x.2.1, x.2.2.1, u3)) hx hb hr hlocks (Or.inl ⟨_, rfl⟩) hK hP hD hS dX3_lookForDescriptor_123 (by unfold fnX3_lookForDescriptor; rw [← q1]; (try dsimp only); rw [if_pos h2]; rw [← q3]; (try dsimp only); rw [if_neg h4]; rw [if_pos h5]; (try exact rfl))
      · refine lv_aload_n hx hb dX3_lookForDescriptor_89 rfl (lv_at hl 3 rfl) ?_
        refine va_get (D := D) (ci := 3) (v := .ref (ad 2)) hx hb hG inX3 hown hK hP 0 rfl rfl 1 (by decide) (hG _ kw36) (fun _ h9 => h9) rfl dX3_lookForDescriptor_90 ?_
        refine lv_iload_n hx hb dX3_lookForDescriptor_93 rfl (lv_at hl 4 rfl) ?_
        refine lv_lload hx hb dX3_lookForDescriptor_94 (lv_at hl 1 rfl) ?_
        refine lv_lload hx hb dX3_lookForDescriptor_96 (lv_at hl 0 rfl) ?_
        refine kVi (As := [.int (a0), .long ((x.1 (((2 : Int32) * a0)).toNatClampNeg)), .long ((x.1 ((((2 : Int32) * a0) + (1 : Int32))).toNatClampNeg))]) (rest := []) (W' := (fun u6 => (wS cI cJ ad (x.1, u6, x.2.2.1, u3)))) hx hb hml hown hG hl (okX0_add l D cI cJ cP (ad 2) (ad 3) (ad 4) (ad 5) H.size x.2.1 a0 (x.1 (((2 : Int32) * a0)).toNatClampNeg) (x.1 ((((2 : Int32) * a0) + (1 : Int32))).toNatClampNeg) hI.2.1 (hI.1 (((2 : Int32) * a0)).toNatClampNeg)) (cV 3 hG kw48 kw49 kw50 kw51 kw38 hdX0_add ⟨by decide, by decide⟩) 2 0 rfl rfl hK hP hD hS hA hN [2, 3, 4, 5] rfl rfl rfl (fun _ => rfl) (fun _ => rfl) rfl rfl (Nat.le_of_ble_eq_true rfl) dX3_lookForDescriptor_98 ⟨Nat.zero_le _, Nat.zero_le _⟩ (fun r6 u6 q6 H locs hP hD hS => ?_)
        have j6 : ivX0_addP (r6, u6) := by rw [q6]; exact ivX0_add x.2.1 a0 (x.1 (((2 : Int32) * a0)).toNatClampNeg) (x.1 ((((2 : Int32) * a0) + (1 : Int32))).toNatClampNeg) hI.2.1 (hI.1 (((2 : Int32) * a0)).toNatClampNeg)
        refine lv_istore_n (lv' := [(3, .int (r6)), (6, .long ((x.1 ((((2 : Int32) * a0) + (1 : Int32))).toNatClampNeg))), (4, .long ((x.1 (((2 : Int32) * a0)).toNatClampNeg))), (0, .ref (ad 0)), (1, .int (a0)), (2, .int (a1))]) hx hb dX3_lookForDescriptor_101 rfl hl (by decide) rfl (fun ls hl => ?_)
        refine lv_iload_n hx hb dX3_lookForDescriptor_102 rfl (lv_at hl 5 rfl) ?_
        refine lv_if_eq (tgt := 119) hx hb dX3_lookForDescriptor_103 (by decide) (fun h9 => absurd h9 h4) (fun _ => ?_)
        refine lv_iload_n hx hb dX3_lookForDescriptor_106 rfl (lv_at hl 0 rfl) ?_
        refine lv_iconst (v := (-1)) hx hb dX3_lookForDescriptor_107 (by decide) ?_
        refine lv_icmp_eq (tgt := 119) hx hb dX3_lookForDescriptor_108 (by decide) (fun h9 => absurd h9 (nq_i2 j6.1)) (fun _ => ?_)
        refine lv_aload_n hx hb dX3_lookForDescriptor_111 rfl (lv_at hl 3 rfl) ?_
        refine va_get (D := D) (ci := 3) (v := .ref (ad 2)) hx hb hG inX3 hown hK hP 0 rfl rfl 1 (by decide) (hG _ kw36) (fun _ h9 => h9) rfl dX3_lookForDescriptor_112 ?_
        refine lv_iload_n hx hb dX3_lookForDescriptor_115 rfl (lv_at hl 0 rfl) ?_
        refine kVv (As := [.int (r6)]) (rest := []) (W' := (fun u7 => (wS cI cJ ad (x.1, u7, x.2.2.1, u3)))) hx hb hml hown hG hl (okX0_moveToFront l D cI cJ cP (ad 2) (ad 3) (ad 4) (ad 5) H.size u6 r6 j6.2 j6.1) (cV 1 hG kw52 kw53 kw54 kw55 kw38 hdX0_moveToFront ⟨by decide, by decide⟩) 2 0 rfl rfl hK hP hD hS hA hN [2, 3, 4, 5] rfl rfl rfl (fun _ => rfl) (fun _ => rfl) rfl rfl (Nat.le_of_ble_eq_true rfl) dX3_lookForDescriptor_116 ⟨Nat.zero_le _, Nat.zero_le _⟩ (fun u7 q7 H locs hP hD hS => ?_)
        have j7 : ivX0_moveToFrontP u7 := by rw [q7]; exact ivX0_moveToFront u6 r6 j6.2 j6.1
        refine lv_aload_n hx hb dX3_lookForDescriptor_119 rfl (lv_at hl 3 rfl) ?_
        refine va_get (D := D) (ci := 3) (v := .ref (ad 10)) hx hb hG inX3 hown hK hP 0 rfl rfl 3 (by decide) (hG _ kw32) (fun _ h9 => h9) rfl dX3_lookForDescriptor_120 ?_
        exact retr (u := (x.1, u7, x.2.2.1, u3)) hx hb hr hlocks (Or.inl ⟨_, rfl⟩) hK hP hD hS dX3_lookForDescriptor_123 (by unfold fnX3_lookForDescriptor; rw [← q1]; (try dsimp only); rw [if_pos h2]; rw [← q3]; (try dsimp only); rw [if_neg h4]; rw [if_neg h5]; rw [← q6]; (try dsimp only); rw [← q7]; (try dsimp only); (try exact rfl))
  · refine lv_aload_n hx hb dX3_lookForDescriptor_14 rfl (lv_at hl 1 rfl) ?_
    refine va_get (D := D) (ci := 3) (v := .ref (ad 10)) hx hb hG inX3 hown hK hP 0 rfl rfl 3 (by decide) (hG _ kw32) (fun _ h9 => h9) rfl dX3_lookForDescriptor_15 ?_
    refine lv_aload_n hx hb dX3_lookForDescriptor_18 rfl (lv_at hl 1 rfl) ?_
    refine va_get (D := D) (ci := 3) (v := .ref (ad 2)) hx hb hG inX3 hown hK hP 0 rfl rfl 1 (by decide) (hG _ kw36) (fun _ h9 => h9) rfl dX3_lookForDescriptor_19 ?_
    refine va_get (D := D) (ci := 0) (v := .ref (ad 4)) hx hb hG inX0 hown hK hP 2 rfl rfl 1 (by decide) (hG _ kw29) (fun _ h9 => h9) rfl dX3_lookForDescriptor_22 ?_
    refine lv_iload_n hx hb dX3_lookForDescriptor_25 rfl (lv_at hl 0 rfl) ?_
    refine gl (D := D) (j := (r1).toNatClampNeg) (f := x.2.1.2.1) hx hb hK hP 4 1 rfl rfl (in2 (plI j1 h2)) rfl dX3_lookForDescriptor_26 ?_
    refine lv_aload_n hx hb dX3_lookForDescriptor_27 rfl (lv_at hl 1 rfl) ?_
    refine va_get (D := D) (ci := 3) (v := .ref (ad 2)) hx hb hG inX3 hown hK hP 0 rfl rfl 1 (by decide) (hG _ kw36) (fun _ h9 => h9) rfl dX3_lookForDescriptor_28 ?_
    refine va_get (D := D) (ci := 0) (v := .ref (ad 5)) hx hb hG inX0 hown hK hP 2 rfl rfl 2 (by decide) (hG _ kw56) (fun _ h9 => h9) rfl dX3_lookForDescriptor_31 ?_
    refine lv_iload_n hx hb dX3_lookForDescriptor_34 rfl (lv_at hl 0 rfl) ?_
    refine gl (D := D) (j := (r1).toNatClampNeg) (f := x.2.1.2.2.1) hx hb hK hP 5 1 rfl rfl (in2 (plI j1 h2)) rfl dX3_lookForDescriptor_35 ?_
    refine kVv (As := [.long ((x.2.1.2.1 (r1).toNatClampNeg)), .long ((x.2.1.2.2.1 (r1).toNatClampNeg))]) (rest := []) (W' := (fun u8 => (wS cI cJ ad (x.1, x.2.1, x.2.2.1, u8)))) hx hb hml hown hG hl (okX1_become l D cI cJ cP (ad 10) H.size x.2.2.2 (x.2.1.2.1 (r1).toNatClampNeg) (x.2.1.2.2.1 (r1).toNatClampNeg) hI.2.2.2) (cV 2 hG kw42 kw44 kw45 kw46 kw43 hdX1_become ⟨by decide, by decide⟩) 10 1 rfl rfl hK hP hD hS hA hN [10] rfl rfl rfl (fun _ => rfl) (fun _ => rfl) rfl rfl (Nat.le_of_ble_eq_true rfl) dX3_lookForDescriptor_36 ⟨Nat.zero_le _, Nat.zero_le _⟩ (fun u8 q8 H locs hP hD hS => ?_)
    have j8 : ivX1_becomeP u8 := by rw [q8]; exact ivX1_become x.2.2.2 (x.2.1.2.1 (r1).toNatClampNeg) (x.2.1.2.2.1 (r1).toNatClampNeg) hI.2.2.2
    refine lv_goto (tgt := 102) hx hb dX3_lookForDescriptor_39 (by decide) ?_
    refine lv_iload_n hx hb dX3_lookForDescriptor_102 rfl (lv_at hl 3 rfl) ?_
    refine lv_if_eq (tgt := 119) hx hb dX3_lookForDescriptor_103 (by decide) (fun h9 => ?_) (fun h9 => ?_)
    · refine lv_aload_n hx hb dX3_lookForDescriptor_119 rfl (lv_at hl 1 rfl) ?_
      refine va_get (D := D) (ci := 3) (v := .ref (ad 10)) hx hb hG inX3 hown hK hP 0 rfl rfl 3 (by decide) (hG _ kw32) (fun _ h9 => h9) rfl dX3_lookForDescriptor_120 ?_
      exact retr (u := (x.1, x.2.1, x.2.2.1, u8)) hx hb hr hlocks (Or.inl ⟨_, rfl⟩) hK hP hD hS dX3_lookForDescriptor_123 (by unfold fnX3_lookForDescriptor; rw [← q1]; (try dsimp only); rw [if_neg h2]; rw [← q8]; (try dsimp only); rw [if_pos h9]; (try exact rfl))
    · refine lv_iload_n hx hb dX3_lookForDescriptor_106 rfl (lv_at hl 0 rfl) ?_
      refine lv_iconst (v := (-1)) hx hb dX3_lookForDescriptor_107 (by decide) ?_
      refine lv_icmp_eq (tgt := 119) hx hb dX3_lookForDescriptor_108 (by decide) (fun h9 => absurd h9 h2) (fun _ => ?_)
      refine lv_aload_n hx hb dX3_lookForDescriptor_111 rfl (lv_at hl 1 rfl) ?_
      refine va_get (D := D) (ci := 3) (v := .ref (ad 2)) hx hb hG inX3 hown hK hP 0 rfl rfl 1 (by decide) (hG _ kw36) (fun _ h9 => h9) rfl dX3_lookForDescriptor_112 ?_
      refine lv_iload_n hx hb dX3_lookForDescriptor_115 rfl (lv_at hl 0 rfl) ?_
      refine kVv (As := [.int (r1)]) (rest := []) (W' := (fun u10 => (wS cI cJ ad (x.1, u10, x.2.2.1, u8)))) hx hb hml hown hG hl (okX0_moveToFront l D cI cJ cP (ad 2) (ad 3) (ad 4) (ad 5) H.size x.2.1 r1 hI.2.1 (plI j1 h2)) (cV 1 hG kw52 kw53 kw54 kw55 kw38 hdX0_moveToFront ⟨by decide, by decide⟩) 2 0 rfl rfl hK hP hD hS hA hN [2, 3, 4, 5] rfl rfl rfl (fun _ => rfl) (fun _ => rfl) rfl rfl (Nat.le_of_ble_eq_true rfl) dX3_lookForDescriptor_116 ⟨Nat.zero_le _, Nat.zero_le _⟩ (fun u10 q10 H locs hP hD hS => ?_)
      have j10 : ivX0_moveToFrontP u10 := by rw [q10]; exact ivX0_moveToFront x.2.1 r1 hI.2.1 (plI j1 h2)
      refine lv_aload_n hx hb dX3_lookForDescriptor_119 rfl (lv_at hl 1 rfl) ?_
      refine va_get (D := D) (ci := 3) (v := .ref (ad 10)) hx hb hG inX3 hown hK hP 0 rfl rfl 3 (by decide) (hG _ kw32) (fun _ h9 => h9) rfl dX3_lookForDescriptor_120 ?_
      exact retr (u := (x.1, u10, x.2.2.1, u8)) hx hb hr hlocks (Or.inl ⟨_, rfl⟩) hK hP hD hS dX3_lookForDescriptor_123 (by unfold fnX3_lookForDescriptor; rw [← q1]; (try dsimp only); rw [if_neg h2]; rw [← q8]; (try dsimp only); rw [if_neg h9]; rw [← q10]; (try dsimp only); (try exact rfl))
def fnX3_lookForPage (x : TS) (a0 : Int32) (a1 : Int32) (a2 : Int32) : Int64 × TS :=
  let p1 := fnX0_placeOf x.2.2.1 (((64 : Int32) * a0) + a1)
  if p1 = (-1 : Int32) then
   let p6 := fnX4_sum x.2.2.2.2.2.1 a1
   if a2 = (0 : Int32) then
    ((x.1 (p6).toNatClampNeg), x)
   else
    if ((x.1 (p6).toNatClampNeg) &&& (34359738368 : Int64)) = (0 : Int64) then
     ((x.1 (p6).toNatClampNeg), x)
    else
     let p10 := fnX0_add x.2.2.1 (((64 : Int32) * a0) + a1) ((x.1 (p6).toNatClampNeg) ||| (17179869184 : Int64)) (0 : Int64)
     let p11 := fnX0_moveToFront p10.2 p10.1
     ((x.1 (p6).toNatClampNeg), ((vp_updL x.1 (p6).toNatClampNeg ((x.1 (p6).toNatClampNeg) ||| (17179869184 : Int64))), x.2.1, p11, x.2.2.2))
  else
   if a2 = (0 : Int32) then
    ((x.2.2.1.2.1 (p1).toNatClampNeg), x)
   else
    if ((x.2.2.1.2.1 (p1).toNatClampNeg) &&& (34359738368 : Int64)) = (0 : Int64) then
     ((x.2.2.1.2.1 (p1).toNatClampNeg), x)
    else
     let p5 := fnX0_moveToFront x.2.2.1 p1
     ((x.2.2.1.2.1 (p1).toNatClampNeg), (x.1, x.2.1, p5, x.2.2.2))
abbrev ivX3_lookForPageP (z : Int64 × TS) : Prop := i36 z.1 ∧ iS z.2
set_option maxRecDepth 100000 in
set_option maxHeartbeats 4000000 in
theorem ivX3_lookForPage (x : TS) (a0 : Int32) (a1 : Int32) (a2 : Int32) (hI : iS x) : ivX3_lookForPageP (fnX3_lookForPage x a0 a1 a2) := by
  unfold fnX3_lookForPage
  try dsimp only
  have j1 : ivX0_placeOfP (fnX0_placeOf x.2.2.1 (((64 : Int32) * a0) + a1)) := ivX0_placeOf x.2.2.1 (((64 : Int32) * a0) + a1) hI.2.2.1
  generalize fnX0_placeOf x.2.2.1 (((64 : Int32) * a0) + a1) = p1 at j1 ⊢
  refine iteI (fun h2 => ?_) (fun h2 => ?_)
  · have j6 : i12 (fnX4_sum x.2.2.2.2.2.1 a1) := (sumX x.2.2.2.2.2.1 a1)
    generalize fnX4_sum x.2.2.2.2.2.1 a1 = p6 at j6 ⊢
    refine iteI (fun h7 => ?_) (fun h7 => ?_)
    · exact ⟨(hI.1 (p6).toNatClampNeg), hI⟩
    · refine iteI (fun h8 => ?_) (fun h8 => ?_)
      · exact ⟨(hI.1 (p6).toNatClampNeg), hI⟩
      · have j10 : ivX0_addP (fnX0_add x.2.2.1 (((64 : Int32) * a0) + a1) ((x.1 (p6).toNatClampNeg) ||| (17179869184 : Int64)) (0 : Int64)) := ivX0_add x.2.2.1 (((64 : Int32) * a0) + a1) ((x.1 (p6).toNatClampNeg) ||| (17179869184 : Int64)) (0 : Int64) hI.2.2.1 (orW (hI.1 (p6).toNatClampNeg) (show i36 (17179869184 : Int64) from by decide))
        generalize fnX0_add x.2.2.1 (((64 : Int32) * a0) + a1) ((x.1 (p6).toNatClampNeg) ||| (17179869184 : Int64)) (0 : Int64) = p10 at j10 ⊢
        have j11 : ivX0_moveToFrontP (fnX0_moveToFront p10.2 p10.1) := ivX0_moveToFront p10.2 p10.1 j10.2 j10.1
        generalize fnX0_moveToFront p10.2 p10.1 = p11 at j11 ⊢
        exact ⟨(hI.1 (p6).toNatClampNeg), ⟨(upW hI.1 (orW (hI.1 (p6).toNatClampNeg) (show i36 (17179869184 : Int64) from by decide))), hI.2.1, j11, hI.2.2.2⟩⟩
  · refine iteI (fun h3 => ?_) (fun h3 => ?_)
    · exact ⟨(hI.2.2.1.1 (p1).toNatClampNeg), hI⟩
    · refine iteI (fun h4 => ?_) (fun h4 => ?_)
      · exact ⟨(hI.2.2.1.1 (p1).toNatClampNeg), hI⟩
      · have j5 : ivX0_moveToFrontP (fnX0_moveToFront x.2.2.1 p1) := ivX0_moveToFront x.2.2.1 p1 hI.2.2.1 (plI j1 h2)
        generalize fnX0_moveToFront x.2.2.1 p1 = p5 at j5 ⊢
        exact ⟨(hI.2.2.1.1 (p1).toNatClampNeg), ⟨hI.1, hI.2.1, j5, hI.2.2.2⟩⟩
set_option maxRecDepth 100000 in
set_option maxHeartbeats 4000000 in
theorem okX3_lookForPage (l : Launch) (D : va_G) (cI cJ cP : ClassId) (ad : Nat → Nat) (sz : Nat) (x : TS) (a0 : Int32) (a1 : Int32) (a2 : Int32) (hI : iS x) : Met l yX3_lookForPage (Cond.code yX3_lookForPage cX3_lookForPage 8 (some .long) :: gG) { frames := 1, cells := 0, slots := 0, locals := 27 } (va_Pc [.ref (ad 0), .int a0, .int a1, .int a2] (PRE D (tz cI cJ cP) sz (wS cI cJ ad x))) (va_Ql (fun (r : Int64) (u : TS) => (r, u) = fnX3_lookForPage x a0 a1 a2) (AT D (tz cI cJ cP) (va_A (wS cI cJ ad x) sz) (fun (u : TS) => (wS cI cJ ad u))) (va_A (wS cI cJ ad x) sz)) 0 0 (va_A (wS cI cJ ad x) sz) := by
  refine mo (QA := fun A => va_Ql (fun (r : Int64) (u : TS) => (r, u) = fnX3_lookForPage x a0 a1 a2) (AT D (tz cI cJ cP) A (fun (u : TS) => (wS cI cJ ad u))) A) (by decide) (Nat.le_of_ble_eq_true rfl) ?_
  intro p e s m below meth c A ls H hx hb hr hml hown hG hlocks hnm hA hS hP hK hD hl hN
  have hown : s.vm.findClass RX3 = some m.cls := hown
  have hl : lv_has ls 8 [(0, .ref (ad 0)), (1, .int a0), (2, .int a1), (3, .int a2)] := hl
  refine lv_bipush (v := 64) hx hb dX3_lookForPage_0 (by decide) ?_
  refine lv_iload_n hx hb dX3_lookForPage_2 rfl (lv_at hl 1 rfl) ?_
  refine lv_imul hx hb dX3_lookForPage_3 ?_
  refine lv_iload_n hx hb dX3_lookForPage_4 rfl (lv_at hl 2 rfl) ?_
  refine lv_iadd hx hb dX3_lookForPage_5 ?_
  refine lv_istore (lv' := [(4, .int ((((64 : Int32) * a0) + a1))), (0, .ref (ad 0)), (1, .int (a0)), (2, .int (a1)), (3, .int (a2))]) hx hb dX3_lookForPage_6 hl (by decide) rfl (fun ls hl => ?_)
  refine lv_aload_n hx hb dX3_lookForPage_8 rfl (lv_at hl 1 rfl) ?_
  refine va_get (D := D) (ci := 3) (v := .ref (ad 6)) hx hb hG inX3 hown hK hP 0 rfl rfl 2 (by decide) (hG _ kw28) (fun _ h9 => h9) rfl dX3_lookForPage_9 ?_
  refine lv_iload hx hb dX3_lookForPage_12 (lv_at hl 0 rfl) ?_
  refine kVi (As := [.int ((((64 : Int32) * a0) + a1))]) (rest := []) (W' := (fun _ => (wS cI cJ ad x))) hx hb hml hown hG hl (okX0_placeOf l D cI cJ cP (ad 6) (ad 7) (ad 8) (ad 9) H.size x.2.2.1 (((64 : Int32) * a0) + a1) hI.2.2.1) (cV 1 hG kw37 kw39 kw40 kw41 kw38 hdX0_placeOf ⟨by decide, by decide⟩) 6 0 rfl rfl hK hP hD hS hA hN [6, 7, 8, 9] rfl rfl rfl (fun _ => rfl) (fun _ => rfl) rfl rfl (Nat.le_of_ble_eq_true rfl) dX3_lookForPage_14 ⟨Nat.zero_le _, Nat.zero_le _⟩ (fun r1 _ q1 H locs hP hD hS => ?_)
  have j1 : ivX0_placeOfP r1 := by rw [q1]; exact ivX0_placeOf x.2.2.1 (((64 : Int32) * a0) + a1) hI.2.2.1
  refine lv_istore (lv' := [(5, .int (r1)), (4, .int ((((64 : Int32) * a0) + a1))), (0, .ref (ad 0)), (1, .int (a0)), (2, .int (a1)), (3, .int (a2))]) hx hb dX3_lookForPage_17 hl (by decide) rfl (fun ls hl => ?_)
  refine lv_iload hx hb dX3_lookForPage_19 (lv_at hl 0 rfl) ?_
  refine lv_iconst (v := (-1)) hx hb dX3_lookForPage_21 (by decide) ?_
  refine lv_icmp_ne (tgt := 44) hx hb dX3_lookForPage_22 (by decide) (fun h2 => ?_) (fun h2 => ?_)
  · refine lv_aload_n hx hb dX3_lookForPage_44 rfl (lv_at hl 2 rfl) ?_
    refine va_get (D := D) (ci := 3) (v := .ref (ad 6)) hx hb hG inX3 hown hK hP 0 rfl rfl 2 (by decide) (hG _ kw28) (fun _ h9 => h9) rfl dX3_lookForPage_45 ?_
    refine va_get (D := D) (ci := 0) (v := .ref (ad 8)) hx hb hG inX0 hown hK hP 6 rfl rfl 1 (by decide) (hG _ kw29) (fun _ h9 => h9) rfl dX3_lookForPage_48 ?_
    refine lv_iload hx hb dX3_lookForPage_51 (lv_at hl 0 rfl) ?_
    refine gl (D := D) (j := (r1).toNatClampNeg) (f := x.2.2.1.2.1) hx hb hK hP 8 1 rfl rfl (in2 (plI j1 h2)) rfl dX3_lookForPage_53 ?_
    refine lv_lstore (lv' := [(6, .long ((x.2.2.1.2.1 (r1).toNatClampNeg))), (5, .int (r1)), (4, .int ((((64 : Int32) * a0) + a1))), (0, .ref (ad 0)), (1, .int (a0)), (2, .int (a1)), (3, .int (a2))]) hx hb dX3_lookForPage_54 hl (by decide) rfl (fun ls hl => ?_)
    refine lv_iload_n hx hb dX3_lookForPage_56 rfl (lv_at hl 6 rfl) ?_
    refine lv_if_eq (tgt := 71) hx hb dX3_lookForPage_57 (by decide) (fun h3 => ?_) (fun h3 => ?_)
    · refine lv_lload hx hb dX3_lookForPage_71 (lv_at hl 0 rfl) ?_
      exact retl (u := x) hx hb hr hlocks hK hP hD hS dX3_lookForPage_73 (by unfold fnX3_lookForPage; rw [← q1]; (try dsimp only); rw [if_neg h2]; rw [if_pos h3]; (try exact rfl))
    · refine lv_lload hx hb dX3_lookForPage_60 (lv_at hl 0 rfl) ?_
      refine lv_ldc2 (v := 34359738368) hx hb hown (hG _ kw57) dX3_lookForPage_62 ?_
      refine lv_land hx hb dX3_lookForPage_65 ?_
      refine lv_lconst (v := 0) hx hb dX3_lookForPage_66 (by decide) ?_
      refine lq_ne (tgt := 74) hx hb dX3_lookForPage_67 dX3_lookForPage_68 (by decide) (fun h4 => ?_) (fun h4 => ?_)
      · refine lv_iload hx hb dX3_lookForPage_74 (lv_at hl 1 rfl) ?_
        refine lv_iconst (v := (-1)) hx hb dX3_lookForPage_76 (by decide) ?_
        refine lv_icmp_ne (tgt := 120) hx hb dX3_lookForPage_77 (by decide) (fun _ => ?_) (fun h9 => absurd h9 h2)
        refine lv_aload_n hx hb dX3_lookForPage_120 rfl (lv_at hl 3 rfl) ?_
        refine va_get (D := D) (ci := 3) (v := .ref (ad 6)) hx hb hG inX3 hown hK hP 0 rfl rfl 2 (by decide) (hG _ kw28) (fun _ h9 => h9) rfl dX3_lookForPage_121 ?_
        refine lv_iload hx hb dX3_lookForPage_124 (lv_at hl 1 rfl) ?_
        refine kVv (As := [.int (r1)]) (rest := []) (W' := (fun u5 => (wS cI cJ ad (x.1, x.2.1, u5, x.2.2.2)))) hx hb hml hown hG hl (okX0_moveToFront l D cI cJ cP (ad 6) (ad 7) (ad 8) (ad 9) H.size x.2.2.1 r1 hI.2.2.1 (plI j1 h2)) (cV 1 hG kw52 kw53 kw54 kw55 kw38 hdX0_moveToFront ⟨by decide, by decide⟩) 6 0 rfl rfl hK hP hD hS hA hN [6, 7, 8, 9] rfl rfl rfl (fun _ => rfl) (fun _ => rfl) rfl rfl (Nat.le_of_ble_eq_true rfl) dX3_lookForPage_126 ⟨Nat.zero_le _, Nat.zero_le _⟩ (fun u5 q5 H locs hP hD hS => ?_)
        have j5 : ivX0_moveToFrontP u5 := by rw [q5]; exact ivX0_moveToFront x.2.2.1 r1 hI.2.2.1 (plI j1 h2)
        refine lv_lload hx hb dX3_lookForPage_129 (lv_at hl 0 rfl) ?_
        exact retl (u := (x.1, x.2.1, u5, x.2.2.2)) hx hb hr hlocks hK hP hD hS dX3_lookForPage_131 (by unfold fnX3_lookForPage; rw [← q1]; (try dsimp only); rw [if_neg h2]; rw [if_neg h3]; rw [if_neg h4]; rw [← q5]; (try dsimp only); (try exact rfl))
      · refine lv_lload hx hb dX3_lookForPage_71 (lv_at hl 0 rfl) ?_
        exact retl (u := x) hx hb hr hlocks hK hP hD hS dX3_lookForPage_73 (by unfold fnX3_lookForPage; rw [← q1]; (try dsimp only); rw [if_neg h2]; rw [if_neg h3]; rw [if_pos h4]; (try exact rfl))
  · refine lv_aload_n hx hb dX3_lookForPage_25 rfl (lv_at hl 2 rfl) ?_
    refine va_get (D := D) (ci := 3) (v := .ref (ad 1)) hx hb hG inX3 hown hK hP 0 rfl rfl 0 (by decide) (hG _ kw31) (fun _ h9 => h9) rfl dX3_lookForPage_26 ?_
    refine lv_aload_n hx hb dX3_lookForPage_29 rfl (lv_at hl 2 rfl) ?_
    refine va_get (D := D) (ci := 3) (v := .ref (ad 10)) hx hb hG inX3 hown hK hP 0 rfl rfl 3 (by decide) (hG _ kw32) (fun _ h9 => h9) rfl dX3_lookForPage_30 ?_
    refine va_get (D := D) (ci := 1) (v := .int (x.2.2.2.2.2.1)) hx hb hG inX1 hown hK hP 10 rfl rfl 2 (by decide) (hG _ kw33) (fun _ h9 => h9) rfl dX3_lookForPage_33 ?_
    refine lv_iload_n hx hb dX3_lookForPage_36 rfl (lv_at hl 4 rfl) ?_
    refine k0SNi (As := [.int (x.2.2.2.2.2.1), .int (a1)]) (rest := [.ref (ad 1)]) hx hb hml hown hG hl (okX4_sum l D cI cJ cP  H.size x.2.2.2.2.2.1 a1 ) (cSN 2 hG kw34 (nl5 hN) kw35 kw5 hdX4_sum ⟨by decide, by decide⟩) hK hP hD hS hA hN rfl rfl (Nat.le_of_ble_eq_true rfl) dX3_lookForPage_37 ⟨Nat.zero_le _, Nat.zero_le _⟩ (fun r6 q6 H locs hP hD hS => ?_)
    have j6 : i12 r6 := by rw [q6]; exact (sumX x.2.2.2.2.2.1 a1)
    refine gl (D := D) (j := (r6).toNatClampNeg) (f := x.1) hx hb hK hP 1 1 rfl rfl (in12 j6) rfl dX3_lookForPage_40 ?_
    refine lv_goto (tgt := 54) hx hb dX3_lookForPage_41 (by decide) ?_
    refine lv_lstore (lv' := [(6, .long ((x.1 (r6).toNatClampNeg))), (5, .int (r1)), (4, .int ((((64 : Int32) * a0) + a1))), (0, .ref (ad 0)), (1, .int (a0)), (2, .int (a1)), (3, .int (a2))]) hx hb dX3_lookForPage_54 hl (by decide) rfl (fun ls hl => ?_)
    refine lv_iload_n hx hb dX3_lookForPage_56 rfl (lv_at hl 6 rfl) ?_
    refine lv_if_eq (tgt := 71) hx hb dX3_lookForPage_57 (by decide) (fun h7 => ?_) (fun h7 => ?_)
    · refine lv_lload hx hb dX3_lookForPage_71 (lv_at hl 0 rfl) ?_
      exact retl (u := x) hx hb hr hlocks hK hP hD hS dX3_lookForPage_73 (by unfold fnX3_lookForPage; rw [← q1]; (try dsimp only); rw [if_pos h2]; rw [← q6]; (try dsimp only); rw [if_pos h7]; (try exact rfl))
    · refine lv_lload hx hb dX3_lookForPage_60 (lv_at hl 0 rfl) ?_
      refine lv_ldc2 (v := 34359738368) hx hb hown (hG _ kw57) dX3_lookForPage_62 ?_
      refine lv_land hx hb dX3_lookForPage_65 ?_
      refine lv_lconst (v := 0) hx hb dX3_lookForPage_66 (by decide) ?_
      refine lq_ne (tgt := 74) hx hb dX3_lookForPage_67 dX3_lookForPage_68 (by decide) (fun h8 => ?_) (fun h8 => ?_)
      · refine lv_iload hx hb dX3_lookForPage_74 (lv_at hl 1 rfl) ?_
        refine lv_iconst (v := (-1)) hx hb dX3_lookForPage_76 (by decide) ?_
        refine lv_icmp_ne (tgt := 120) hx hb dX3_lookForPage_77 (by decide) (fun h9 => absurd h2 h9) (fun _ => ?_)
        refine lv_aload_n hx hb dX3_lookForPage_80 rfl (lv_at hl 3 rfl) ?_
        refine va_get (D := D) (ci := 3) (v := .ref (ad 1)) hx hb hG inX3 hown hK hP 0 rfl rfl 0 (by decide) (hG _ kw31) (fun _ h9 => h9) rfl dX3_lookForPage_81 ?_
        refine lv_aload_n hx hb dX3_lookForPage_84 rfl (lv_at hl 3 rfl) ?_
        refine va_get (D := D) (ci := 3) (v := .ref (ad 10)) hx hb hG inX3 hown hK hP 0 rfl rfl 3 (by decide) (hG _ kw32) (fun _ h9 => h9) rfl dX3_lookForPage_85 ?_
        refine va_get (D := D) (ci := 1) (v := .int (x.2.2.2.2.2.1)) hx hb hG inX1 hown hK hP 10 rfl rfl 2 (by decide) (hG _ kw33) (fun _ h9 => h9) rfl dX3_lookForPage_88 ?_
        refine lv_iload_n hx hb dX3_lookForPage_91 rfl (lv_at hl 5 rfl) ?_
        refine k0SNi (As := [.int (x.2.2.2.2.2.1), .int (a1)]) (rest := [.ref (ad 1)]) hx hb hml hown hG hl (okX4_sum l D cI cJ cP  H.size x.2.2.2.2.2.1 a1 ) (cSN 2 hG kw34 (nl5 hN) kw35 kw5 hdX4_sum ⟨by decide, by decide⟩) hK hP hD hS hA hN rfl rfl (Nat.le_of_ble_eq_true rfl) dX3_lookForPage_92 ⟨Nat.zero_le _, Nat.zero_le _⟩ (fun r9 q9 H locs hP hD hS => ?_)
        have z9 : r6 = r9 := q6.trans q9.symm
        subst z9
        refine lv_dup2_11 hx hb dX3_lookForPage_95 rfl rfl ?_
        refine gl (D := D) (j := (r6).toNatClampNeg) (f := x.1) hx hb hK hP 1 1 rfl rfl (in12 j6) rfl dX3_lookForPage_96 ?_
        refine lv_ldc2 (v := 17179869184) hx hb hown (hG _ kw58) dX3_lookForPage_97 ?_
        refine lv_lor hx hb dX3_lookForPage_100 ?_
        refine sl (D := D) (j := (r6).toNatClampNeg) (f := x.1) (x := ((x.1 (r6).toNatClampNeg) ||| (17179869184 : Int64))) (W' := (wS cI cJ ad ((vp_updL x.1 (r6).toNatClampNeg ((x.1 (r6).toNatClampNeg) ||| (17179869184 : Int64))), x.2.1, x.2.2.1, x.2.2.2))) hx hb hK hP hD hS 1 1 rfl rfl (in12 j6) rfl dX3_lookForPage_101 rfl (fun H locs hP hD hS => ?_)
        refine lv_aload_n hx hb dX3_lookForPage_102 rfl (lv_at hl 3 rfl) ?_
        refine va_get (D := D) (ci := 3) (v := .ref (ad 6)) hx hb hG inX3 hown hK hP 0 rfl rfl 2 (by decide) (hG _ kw28) (fun _ h9 => h9) rfl dX3_lookForPage_103 ?_
        refine lv_iload hx hb dX3_lookForPage_106 (lv_at hl 2 rfl) ?_
        refine lv_lload hx hb dX3_lookForPage_108 (lv_at hl 0 rfl) ?_
        refine lv_ldc2 (v := 17179869184) hx hb hown (hG _ kw58) dX3_lookForPage_110 ?_
        refine lv_lor hx hb dX3_lookForPage_113 ?_
        refine lv_lconst (v := 0) hx hb dX3_lookForPage_114 (by decide) ?_
        refine kVi (As := [.int ((((64 : Int32) * a0) + a1)), .long (((x.1 (r6).toNatClampNeg) ||| (17179869184 : Int64))), .long ((0 : Int64))]) (rest := []) (W' := (fun u10 => (wS cI cJ ad ((vp_updL x.1 (r6).toNatClampNeg ((x.1 (r6).toNatClampNeg) ||| (17179869184 : Int64))), x.2.1, u10, x.2.2.2)))) hx hb hml hown hG hl (okX0_add l D cI cJ cP (ad 6) (ad 7) (ad 8) (ad 9) H.size x.2.2.1 (((64 : Int32) * a0) + a1) ((x.1 (r6).toNatClampNeg) ||| (17179869184 : Int64)) (0 : Int64) hI.2.2.1 (orW (hI.1 (r6).toNatClampNeg) (show i36 (17179869184 : Int64) from by decide))) (cV 3 hG kw48 kw49 kw50 kw51 kw38 hdX0_add ⟨by decide, by decide⟩) 6 0 rfl rfl hK hP hD hS hA hN [6, 7, 8, 9] rfl rfl rfl (fun _ => rfl) (fun _ => rfl) rfl rfl (Nat.le_of_ble_eq_true rfl) dX3_lookForPage_115 ⟨Nat.zero_le _, Nat.zero_le _⟩ (fun r10 u10 q10 H locs hP hD hS => ?_)
        have j10 : ivX0_addP (r10, u10) := by rw [q10]; exact ivX0_add x.2.2.1 (((64 : Int32) * a0) + a1) ((x.1 (r6).toNatClampNeg) ||| (17179869184 : Int64)) (0 : Int64) hI.2.2.1 (orW (hI.1 (r6).toNatClampNeg) (show i36 (17179869184 : Int64) from by decide))
        refine lv_istore (lv' := [(5, .int (r10)), (6, .long ((x.1 (r6).toNatClampNeg))), (4, .int ((((64 : Int32) * a0) + a1))), (0, .ref (ad 0)), (1, .int (a0)), (2, .int (a1)), (3, .int (a2))]) hx hb dX3_lookForPage_118 hl (by decide) rfl (fun ls hl => ?_)
        refine lv_aload_n hx hb dX3_lookForPage_120 rfl (lv_at hl 3 rfl) ?_
        refine va_get (D := D) (ci := 3) (v := .ref (ad 6)) hx hb hG inX3 hown hK hP 0 rfl rfl 2 (by decide) (hG _ kw28) (fun _ h9 => h9) rfl dX3_lookForPage_121 ?_
        refine lv_iload hx hb dX3_lookForPage_124 (lv_at hl 0 rfl) ?_
        refine kVv (As := [.int (r10)]) (rest := []) (W' := (fun u11 => (wS cI cJ ad ((vp_updL x.1 (r6).toNatClampNeg ((x.1 (r6).toNatClampNeg) ||| (17179869184 : Int64))), x.2.1, u11, x.2.2.2)))) hx hb hml hown hG hl (okX0_moveToFront l D cI cJ cP (ad 6) (ad 7) (ad 8) (ad 9) H.size u10 r10 j10.2 j10.1) (cV 1 hG kw52 kw53 kw54 kw55 kw38 hdX0_moveToFront ⟨by decide, by decide⟩) 6 0 rfl rfl hK hP hD hS hA hN [6, 7, 8, 9] rfl rfl rfl (fun _ => rfl) (fun _ => rfl) rfl rfl (Nat.le_of_ble_eq_true rfl) dX3_lookForPage_126 ⟨Nat.zero_le _, Nat.zero_le _⟩ (fun u11 q11 H locs hP hD hS => ?_)
        have j11 : ivX0_moveToFrontP u11 := by rw [q11]; exact ivX0_moveToFront u10 r10 j10.2 j10.1
        refine lv_lload hx hb dX3_lookForPage_129 (lv_at hl 1 rfl) ?_
        exact retl (u := ((vp_updL x.1 (r6).toNatClampNeg ((x.1 (r6).toNatClampNeg) ||| (17179869184 : Int64))), x.2.1, u11, x.2.2.2)) hx hb hr hlocks hK hP hD hS dX3_lookForPage_131 (by unfold fnX3_lookForPage; rw [← q1]; (try dsimp only); rw [if_pos h2]; rw [← q6]; (try dsimp only); rw [if_neg h7]; rw [if_neg h8]; rw [← q10]; (try dsimp only); rw [← q11]; (try dsimp only); (try exact rfl))
      · refine lv_lload hx hb dX3_lookForPage_71 (lv_at hl 0 rfl) ?_
        exact retl (u := x) hx hb hr hlocks hK hP hD hS dX3_lookForPage_73 (by unfold fnX3_lookForPage; rw [← q1]; (try dsimp only); rw [if_pos h2]; rw [← q6]; (try dsimp only); rw [if_neg h7]; rw [if_pos h8]; (try exact rfl))
