def fnX3_read (x : TS) (y : TP) (a1 : Int32) : Int64 × TS :=
  let p1 := fnX3_locate x y.1 y.2.1 y.2.2 a1 (1 : Int32)
  if (0 : Int32) ≤ p1.1 then
   ((p1.2.1 (p1.1).toNatClampNeg), p1.2)
  else
   ((p1.1).toInt64, p1.2)
abbrev ivX3_readP (z : Int64 × TS) : Prop := ird z.1 ∧ iS z.2
set_option maxRecDepth 100000 in
set_option maxHeartbeats 4000000 in
theorem ivX3_read (x : TS) (y : TP) (a1 : Int32) (hI : iS x) (hJ : iP y) : ivX3_readP (fnX3_read x y a1) := by
  unfold fnX3_read
  try dsimp only
  have j1 : ivX3_locateP (fnX3_locate x y.1 y.2.1 y.2.2 a1 (1 : Int32)) := ivX3_locate x y.1 y.2.1 y.2.2 a1 (1 : Int32) hI hJ.1 hJ.2.1
  generalize fnX3_locate x y.1 y.2.1 y.2.2 a1 (1 : Int32) = p1 at j1 ⊢
  refine iteI (fun h2 => ?_) (fun h2 => ?_)
  · exact ⟨(Or.inr (j1.2.1 (p1.1).toNatClampNeg)), j1.2⟩
  · exact ⟨(i2lN j1.1 (Int32.not_le.mp h2)), j1.2⟩
set_option maxRecDepth 100000 in
set_option maxHeartbeats 4000000 in
theorem okX3_read (l : Launch) (D : va_G) (cI cJ cP : ClassId) (ad : Nat → Nat) (sz : Nat) (x : TS) (y : TP) (a1 : Int32) (hI : iS x) (hJ : iP y) : Met l yX3_read (Cond.code yX3_read cX3_read 4 (some .long) :: gG) { frames := 3, cells := 0, slots := 0, locals := 82 } (va_Pc [.ref (ad 0), .ref (ad 11), .int a1] (PRE D (tz cI cJ cP) sz (wSP cI cJ ad x y))) (va_Ql (fun (r : Int64) (u : TS) => (r, u) = fnX3_read x y a1) (AT D (tz cI cJ cP) (va_A (wSP cI cJ ad x y) sz) (fun (u : TS) => (wSP cI cJ ad u y))) (va_A (wSP cI cJ ad x y) sz)) 0 0 (va_A (wSP cI cJ ad x y) sz) := by
  refine mo (QA := fun A => va_Ql (fun (r : Int64) (u : TS) => (r, u) = fnX3_read x y a1) (AT D (tz cI cJ cP) A (fun (u : TS) => (wSP cI cJ ad u y))) A) (by decide) (Nat.le_of_ble_eq_true rfl) ?_
  intro p e s m below meth c A ls H hx hb hr hml hown hG hlocks hnm hA hS hP hK hD hl hN
  have hown : s.vm.findClass RX3 = some m.cls := hown
  have hl : lv_has ls 4 [(0, .ref (ad 0)), (1, .ref (ad 11)), (2, .int a1)] := hl
  refine lv_aload_n hx hb dX3_read_0 rfl (lv_at hl 0 rfl) ?_
  refine lv_aload_n hx hb dX3_read_1 rfl (lv_at hl 1 rfl) ?_
  refine va_get (D := D) (ci := 2) (v := .int (y.1)) hx hb hG inX2 hown hK hP 11 rfl rfl 0 (by decide) (hG _ kw74) (fun _ h9 => h9) rfl dX3_read_2 ?_
  refine lv_aload_n hx hb dX3_read_5 rfl (lv_at hl 1 rfl) ?_
  refine va_get (D := D) (ci := 2) (v := .int (y.2.1)) hx hb hG inX2 hown hK hP 11 rfl rfl 1 (by decide) (hG _ kw75) (fun _ h9 => h9) rfl dX3_read_6 ?_
  refine lv_aload_n hx hb dX3_read_9 rfl (lv_at hl 1 rfl) ?_
  refine va_get (D := D) (ci := 2) (v := .int (y.2.2)) hx hb hG inX2 hown hK hP 11 rfl rfl 2 (by decide) (hG _ kw76) (fun _ h9 => h9) rfl dX3_read_10 ?_
  refine lv_iload_n hx hb dX3_read_13 rfl (lv_at hl 2 rfl) ?_
  refine lv_iconst (v := 1) hx hb dX3_read_14 (by decide) ?_
  refine kVi (As := [.int (y.1), .int (y.2.1), .int (y.2.2), .int (a1), .int ((1 : Int32))]) (rest := []) (W' := (fun u1 => (wSP cI cJ ad u1 y))) hx hb hml hown hG hl (okX3_locate l D cI cJ cP ad H.size x y.1 y.2.1 y.2.2 a1 (1 : Int32) hI hJ.1 hJ.2.1) (cV 5 hG kw77 kw78 kw79 kw80 kw60 hdX3_locate ⟨by decide, by decide⟩) 0 3 rfl rfl hK hP hD hS hA hN [0, 1, 2, 3, 4, 5, 6, 7, 8, 9, 10] rfl rfl rfl (fun _ => rfl) (fun _ => rfl) rfl rfl (Nat.le_of_ble_eq_true rfl) dX3_read_15 ⟨Nat.zero_le _, Nat.zero_le _⟩ (fun r1 u1 q1 H locs hP hD hS => ?_)
  have j1 : ivX3_locateP (r1, u1) := by rw [q1]; exact ivX3_locate x y.1 y.2.1 y.2.2 a1 (1 : Int32) hI hJ.1 hJ.2.1
  refine lv_istore_n (lv' := [(3, .int (r1)), (0, .ref (ad 0)), (1, .ref (ad 11)), (2, .int (a1))]) hx hb dX3_read_18 rfl hl (by decide) rfl (fun ls hl => ?_)
  refine lv_iload_n hx hb dX3_read_19 rfl (lv_at hl 0 rfl) ?_
  refine lv_if_ge (tgt := 28) hx hb dX3_read_20 (by decide) (fun h2 => ?_) (fun h2 => ?_)
  · refine lv_aload_n hx hb dX3_read_28 rfl (lv_at hl 1 rfl) ?_
    refine va_get (D := D) (ci := 3) (v := .ref (ad 1)) hx hb hG inX3 hown hK hP 0 rfl rfl 0 (by decide) (hG _ kw31) (fun _ h9 => h9) rfl dX3_read_29 ?_
    refine lv_iload_n hx hb dX3_read_32 rfl (lv_at hl 0 rfl) ?_
    refine gl (D := D) (j := (r1).toNatClampNeg) (f := u1.1) hx hb hK hP 1 1 rfl rfl (in12 (locI j1.1 (Int32.not_lt.mpr h2))) rfl dX3_read_33 ?_
    exact retl (u := u1) hx hb hr hlocks hK hP hD hS dX3_read_34 (by unfold fnX3_read; rw [← q1]; (try dsimp only); rw [if_pos h2]; (try exact rfl))
  · refine lv_iload_n hx hb dX3_read_23 rfl (lv_at hl 0 rfl) ?_
    refine lv_i2l hx hb dX3_read_24 rfl ?_
    refine lv_goto (tgt := 34) hx hb dX3_read_25 (by decide) ?_
    exact retl (u := u1) hx hb hr hlocks hK hP hD hS dX3_read_34 (by unfold fnX3_read; rw [← q1]; (try dsimp only); rw [if_neg h2]; (try exact rfl))
def fnX3_write (x : TS) (y : TP) (a1 : Int64) : Int32 × TS :=
  let p1 := fnX3_locate x y.1 y.2.1 y.2.2 (1 : Int32) (1 : Int32)
  if (0 : Int32) ≤ p1.1 then
   if p1.2.2.2.2.2.1 = (0 : Int32) then
    ((0 : Int32), ((vp_updL p1.2.1 (p1.1).toNatClampNeg a1), p1.2.2.1, p1.2.2.2.1, p1.2.2.2.2))
   else
    let p4 := fnX3_markChanged p1.2 (y.2.1 / (64 : Int32))
    ((0 : Int32), ((vp_updL p4.1 (p1.1).toNatClampNeg a1), p4.2.1, p4.2.2.1, p4.2.2.2))
  else
   let p5 := fnX4_faultOf ((p1.1).toInt64)
   (p5, p1.2)
abbrev ivX3_writeP (z : Int32 × TS) : Prop := i4 z.1 ∧ iS z.2
set_option maxRecDepth 100000 in
set_option maxHeartbeats 4000000 in
theorem ivX3_write (x : TS) (y : TP) (a1 : Int64) (hI : iS x) (hJ : iP y) (g1 : i36 a1) : ivX3_writeP (fnX3_write x y a1) := by
  unfold fnX3_write
  try dsimp only
  have j1 : ivX3_locateP (fnX3_locate x y.1 y.2.1 y.2.2 (1 : Int32) (1 : Int32)) := ivX3_locate x y.1 y.2.1 y.2.2 (1 : Int32) (1 : Int32) hI hJ.1 hJ.2.1
  generalize fnX3_locate x y.1 y.2.1 y.2.2 (1 : Int32) (1 : Int32) = p1 at j1 ⊢
  refine iteI (fun h2 => ?_) (fun h2 => ?_)
  · refine iteI (fun h3 => ?_) (fun h3 => ?_)
    · exact ⟨(show i4 (0 : Int32) from by decide), ⟨(upW j1.2.1 g1), j1.2.2.1, j1.2.2.2.1, j1.2.2.2.2⟩⟩
    · have j4 : ivX3_markChangedP (fnX3_markChanged p1.2 (y.2.1 / (64 : Int32))) := ivX3_markChanged p1.2 (y.2.1 / (64 : Int32)) j1.2
      generalize fnX3_markChanged p1.2 (y.2.1 / (64 : Int32)) = p4 at j4 ⊢
      exact ⟨(show i4 (0 : Int32) from by decide), ⟨(upW j4.1 g1), j4.2.1, j4.2.2.1, j4.2.2.2⟩⟩
  · have j5 : i4 (fnX4_faultOf ((p1.1).toInt64)) := (fltI (i2lN j1.1 (Int32.not_le.mp h2)) (i2lP (Int32.not_le.mp h2)))
    generalize fnX4_faultOf ((p1.1).toInt64) = p5 at j5 ⊢
    exact ⟨j5, j1.2⟩
set_option maxRecDepth 100000 in
set_option maxHeartbeats 4000000 in
theorem okX3_write (l : Launch) (D : va_G) (cI cJ cP : ClassId) (ad : Nat → Nat) (sz : Nat) (x : TS) (y : TP) (a1 : Int64) (hI : iS x) (hJ : iP y) (g1 : i36 a1) : Met l yX3_write (Cond.code yX3_write cX3_write 5 (some .int) :: gG) { frames := 3, cells := 0, slots := 0, locals := 82 } (va_Pc [.ref (ad 0), .ref (ad 11), .long a1] (PRE D (tz cI cJ cP) sz (wSP cI cJ ad x y))) (va_Qi (fun (r : Int32) (u : TS) => (r, u) = fnX3_write x y a1) (AT D (tz cI cJ cP) (va_A (wSP cI cJ ad x y) sz) (fun (u : TS) => (wSP cI cJ ad u y))) (va_A (wSP cI cJ ad x y) sz)) 0 0 (va_A (wSP cI cJ ad x y) sz) := by
  refine mo (QA := fun A => va_Qi (fun (r : Int32) (u : TS) => (r, u) = fnX3_write x y a1) (AT D (tz cI cJ cP) A (fun (u : TS) => (wSP cI cJ ad u y))) A) (by decide) (Nat.le_of_ble_eq_true rfl) ?_
  intro p e s m below meth c A ls H hx hb hr hml hown hG hlocks hnm hA hS hP hK hD hl hN
  have hown : s.vm.findClass RX3 = some m.cls := hown
  have hl : lv_has ls 5 [(0, .ref (ad 0)), (1, .ref (ad 11)), (2, .long a1)] := hl
  refine lv_aload_n hx hb dX3_write_0 rfl (lv_at hl 0 rfl) ?_
  refine lv_aload_n hx hb dX3_write_1 rfl (lv_at hl 1 rfl) ?_
  refine va_get (D := D) (ci := 2) (v := .int (y.1)) hx hb hG inX2 hown hK hP 11 rfl rfl 0 (by decide) (hG _ kw74) (fun _ h9 => h9) rfl dX3_write_2 ?_
  refine lv_aload_n hx hb dX3_write_5 rfl (lv_at hl 1 rfl) ?_
  refine va_get (D := D) (ci := 2) (v := .int (y.2.1)) hx hb hG inX2 hown hK hP 11 rfl rfl 1 (by decide) (hG _ kw75) (fun _ h9 => h9) rfl dX3_write_6 ?_
  refine lv_aload_n hx hb dX3_write_9 rfl (lv_at hl 1 rfl) ?_
  refine va_get (D := D) (ci := 2) (v := .int (y.2.2)) hx hb hG inX2 hown hK hP 11 rfl rfl 2 (by decide) (hG _ kw76) (fun _ h9 => h9) rfl dX3_write_10 ?_
  refine lv_iconst (v := 1) hx hb dX3_write_13 (by decide) ?_
  refine lv_iconst (v := 1) hx hb dX3_write_14 (by decide) ?_
  refine kVi (As := [.int (y.1), .int (y.2.1), .int (y.2.2), .int ((1 : Int32)), .int ((1 : Int32))]) (rest := []) (W' := (fun u1 => (wSP cI cJ ad u1 y))) hx hb hml hown hG hl (okX3_locate l D cI cJ cP ad H.size x y.1 y.2.1 y.2.2 (1 : Int32) (1 : Int32) hI hJ.1 hJ.2.1) (cV 5 hG kw77 kw78 kw79 kw80 kw60 hdX3_locate ⟨by decide, by decide⟩) 0 3 rfl rfl hK hP hD hS hA hN [0, 1, 2, 3, 4, 5, 6, 7, 8, 9, 10] rfl rfl rfl (fun _ => rfl) (fun _ => rfl) rfl rfl (Nat.le_of_ble_eq_true rfl) dX3_write_15 ⟨Nat.zero_le _, Nat.zero_le _⟩ (fun r1 u1 q1 H locs hP hD hS => ?_)
  have j1 : ivX3_locateP (r1, u1) := by rw [q1]; exact ivX3_locate x y.1 y.2.1 y.2.2 (1 : Int32) (1 : Int32) hI hJ.1 hJ.2.1
  refine lv_istore (lv' := [(4, .int (r1)), (0, .ref (ad 0)), (1, .ref (ad 11)), (2, .long (a1))]) hx hb dX3_write_18 hl (by decide) rfl (fun ls hl => ?_)
  refine lv_iload hx hb dX3_write_20 (lv_at hl 0 rfl) ?_
  refine lv_if_ge (tgt := 32) hx hb dX3_write_22 (by decide) (fun h2 => ?_) (fun h2 => ?_)
  · refine lv_aload_n hx hb dX3_write_32 rfl (lv_at hl 1 rfl) ?_
    refine va_get (D := D) (ci := 3) (v := .ref (ad 10)) hx hb hG inX3 hown hK hP 0 rfl rfl 3 (by decide) (hG _ kw32) (fun _ h9 => h9) rfl dX3_write_33 ?_
    refine va_get (D := D) (ci := 1) (v := .int (u1.2.2.2.2.1)) hx hb hG inX1 hown hK hP 10 rfl rfl 1 (by decide) (hG _ kw68) (fun _ h9 => h9) rfl dX3_write_36 ?_
    refine lv_if_eq (tgt := 53) hx hb dX3_write_39 (by decide) (fun h3 => ?_) (fun h3 => ?_)
    · refine lv_aload_n hx hb dX3_write_53 rfl (lv_at hl 1 rfl) ?_
      refine va_get (D := D) (ci := 3) (v := .ref (ad 1)) hx hb hG inX3 hown hK hP 0 rfl rfl 0 (by decide) (hG _ kw31) (fun _ h9 => h9) rfl dX3_write_54 ?_
      refine lv_iload hx hb dX3_write_57 (lv_at hl 0 rfl) ?_
      refine lv_lload_n hx hb dX3_write_59 rfl (lv_at hl 3 rfl) ?_
      refine sl (D := D) (j := (r1).toNatClampNeg) (f := u1.1) (x := a1) (W' := (wSP cI cJ ad ((vp_updL u1.1 (r1).toNatClampNeg a1), u1.2.1, u1.2.2.1, u1.2.2.2) y)) hx hb hK hP hD hS 1 1 rfl rfl (in12 (locI j1.1 (Int32.not_lt.mpr h2))) rfl dX3_write_60 rfl (fun H locs hP hD hS => ?_)
      refine lv_iconst (v := 0) hx hb dX3_write_61 (by decide) ?_
      exact reti (u := ((vp_updL u1.1 (r1).toNatClampNeg a1), u1.2.1, u1.2.2.1, u1.2.2.2)) hx hb hr hlocks hK hP hD hS dX3_write_62 (by unfold fnX3_write; rw [← q1]; (try dsimp only); rw [if_pos h2]; rw [if_pos h3]; (try exact rfl))
    · refine lv_aload_n hx hb dX3_write_42 rfl (lv_at hl 1 rfl) ?_
      refine lv_aload_n hx hb dX3_write_43 rfl (lv_at hl 2 rfl) ?_
      refine va_get (D := D) (ci := 2) (v := .int (y.2.1)) hx hb hG inX2 hown hK hP 11 rfl rfl 1 (by decide) (hG _ kw75) (fun _ h9 => h9) rfl dX3_write_44 ?_
      refine lv_bipush (v := 64) hx hb dX3_write_47 (by decide) ?_
      refine lv_idiv hx hb dX3_write_49 (by decide) ?_
      refine kVv (As := [.int ((y.2.1 / (64 : Int32)))]) (rest := []) (W' := (fun u4 => (wSP cI cJ ad u4 y))) hx hb hml hown hG hl (okX3_markChanged l D cI cJ cP ad H.size u1 (y.2.1 / (64 : Int32)) j1.2) (cV 1 hG kw81 kw82 kw83 kw84 kw60 hdX3_markChanged ⟨by decide, by decide⟩) 0 3 rfl rfl hK hP hD hS hA hN [0, 1, 2, 3, 4, 5, 6, 7, 8, 9, 10] rfl rfl rfl (fun _ => rfl) (fun _ => rfl) rfl rfl (Nat.le_of_ble_eq_true rfl) dX3_write_50 ⟨Nat.zero_le _, Nat.zero_le _⟩ (fun u4 q4 H locs hP hD hS => ?_)
      have j4 : ivX3_markChangedP u4 := by rw [q4]; exact ivX3_markChanged u1 (y.2.1 / (64 : Int32)) j1.2
      refine lv_aload_n hx hb dX3_write_53 rfl (lv_at hl 1 rfl) ?_
      refine va_get (D := D) (ci := 3) (v := .ref (ad 1)) hx hb hG inX3 hown hK hP 0 rfl rfl 0 (by decide) (hG _ kw31) (fun _ h9 => h9) rfl dX3_write_54 ?_
      refine lv_iload hx hb dX3_write_57 (lv_at hl 0 rfl) ?_
      refine lv_lload_n hx hb dX3_write_59 rfl (lv_at hl 3 rfl) ?_
      refine sl (D := D) (j := (r1).toNatClampNeg) (f := u4.1) (x := a1) (W' := (wSP cI cJ ad ((vp_updL u4.1 (r1).toNatClampNeg a1), u4.2.1, u4.2.2.1, u4.2.2.2) y)) hx hb hK hP hD hS 1 1 rfl rfl (in12 (locI j1.1 (Int32.not_lt.mpr h2))) rfl dX3_write_60 rfl (fun H locs hP hD hS => ?_)
      refine lv_iconst (v := 0) hx hb dX3_write_61 (by decide) ?_
      exact reti (u := ((vp_updL u4.1 (r1).toNatClampNeg a1), u4.2.1, u4.2.2.1, u4.2.2.2)) hx hb hr hlocks hK hP hD hS dX3_write_62 (by unfold fnX3_write; rw [← q1]; (try dsimp only); rw [if_pos h2]; rw [if_neg h3]; rw [← q4]; (try dsimp only); (try exact rfl))
  · refine lv_iload hx hb dX3_write_25 (lv_at hl 0 rfl) ?_
    refine lv_i2l hx hb dX3_write_27 rfl ?_
    refine k0SNi (As := [.long ((r1).toInt64)]) (rest := []) hx hb hml hown hG hl (okX4_faultOf l D cI cJ cP  H.size ((r1).toInt64) ) (cSN 1 hG kw85 (nl6 hN) kw86 kw5 hdX4_faultOf ⟨by decide, by decide⟩) hK hP hD hS hA hN rfl rfl (Nat.le_of_ble_eq_true rfl) dX3_write_28 ⟨Nat.zero_le _, Nat.zero_le _⟩ (fun r5 q5 H locs hP hD hS => ?_)
    have j5 : i4 r5 := by rw [q5]; exact (fltI (i2lN j1.1 (Int32.not_le.mp h2)) (i2lP (Int32.not_le.mp h2)))
    exact reti (u := u1) hx hb hr hlocks hK hP hD hS dX3_write_31 (by unfold fnX3_write; rw [← q1]; (try dsimp only); rw [if_neg h2]; rw [← q5]; (try dsimp only); (try exact rfl))
