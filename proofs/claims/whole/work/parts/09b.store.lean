def fnX3_locate (x : TS) (a0 : Int32) (a1 : Int32) (a2 : Int32) (a3 : Int32) (a4 : Int32) : Int32 × TS :=
  let p1 := fnX3_lookForDescriptor x a0 a4
  let p2 := fnX1_refusal p1.2.2.2 a1 a2 a3
  if p2 = (0 : Int32) then
   if p1.2.2.2.2.1 = (0 : Int32) then
    let p7 := fnX4_sum p1.2.2.2.2.2.1 a1
    (p7, p1)
   else
    let p5 := fnX3_lookForPage p1 a0 (a1 / (64 : Int32)) a4
    if (p5.1 &&& (34359738368 : Int64)) = (0 : Int64) then
     ((-3 : Int32), p5.2)
    else
     (((((p5.1 - p5.1 / (64 : Int64) * (64 : Int64))).toInt32 * (64 : Int32)) + (a1 - a1 / (64 : Int32) * (64 : Int32))), p5.2)
  else
   (((-1 : Int32) - p2), p1)
abbrev ivX3_locateP (z : Int32 × TS) : Prop := iloc z.1 ∧ iS z.2
set_option maxRecDepth 100000 in
set_option maxHeartbeats 4000000 in
theorem ivX3_locate (x : TS) (a0 : Int32) (a1 : Int32) (a2 : Int32) (a3 : Int32) (a4 : Int32) (hI : iS x) (g0 : i4 a0) (g1 : i12 a1) : ivX3_locateP (fnX3_locate x a0 a1 a2 a3 a4) := by
  unfold fnX3_locate
  try dsimp only
  have j1 : ivX3_lookForDescriptorP (fnX3_lookForDescriptor x a0 a4) := ivX3_lookForDescriptor x a0 a4 hI g0
  generalize fnX3_lookForDescriptor x a0 a4 = p1 at j1 ⊢
  have j2 : ivX1_refusalP (fnX1_refusal p1.2.2.2 a1 a2 a3) := ivX1_refusal p1.2.2.2 a1 a2 a3 j1.2.2.2
  generalize fnX1_refusal p1.2.2.2 a1 a2 a3 = p2 at j2 ⊢
  refine iteI (fun h3 => ?_) (fun h3 => ?_)
  · refine iteI (fun h4 => ?_) (fun h4 => ?_)
    · have j7 : i12 (fnX4_sum p1.2.2.2.2.2.1 a1) := (sumX p1.2.2.2.2.2.1 a1)
      generalize fnX4_sum p1.2.2.2.2.2.1 a1 = p7 at j7 ⊢
      exact ⟨(Or.inr j7), j1⟩
    · have j5 : ivX3_lookForPageP (fnX3_lookForPage p1 a0 (a1 / (64 : Int32)) a4) := ivX3_lookForPage p1 a0 (a1 / (64 : Int32)) a4 j1
      generalize fnX3_lookForPage p1 a0 (a1 / (64 : Int32)) a4 = p5 at j5 ⊢
      refine iteI (fun h6 => ?_) (fun h6 => ?_)
      · exact ⟨(Or.inl (Or.inr (Or.inl rfl))), j5.2⟩
      · exact ⟨(Or.inr (pgI j5.1 g1)), j5.2⟩
  · exact ⟨(Or.inl (rfN j2 h3)), j1⟩
set_option maxRecDepth 100000 in
set_option maxHeartbeats 4000000 in
theorem okX3_locate (l : Launch) (D : va_G) (cI cJ cP : ClassId) (ad : Nat → Nat) (sz : Nat) (x : TS) (a0 : Int32) (a1 : Int32) (a2 : Int32) (a3 : Int32) (a4 : Int32) (hI : iS x) (g0 : i4 a0) (g1 : i12 a1) : Met l yX3_locate (Cond.code yX3_locate cX3_locate 9 (some .int) :: gG) { frames := 2, cells := 0, slots := 0, locals := 54 } (va_Pc [.ref (ad 0), .int a0, .int a1, .int a2, .int a3, .int a4] (PRE D (tz cI cJ cP) sz (wS cI cJ ad x))) (va_Qi (fun (r : Int32) (u : TS) => (r, u) = fnX3_locate x a0 a1 a2 a3 a4) (AT D (tz cI cJ cP) (va_A (wS cI cJ ad x) sz) (fun (u : TS) => (wS cI cJ ad u))) (va_A (wS cI cJ ad x) sz)) 0 0 (va_A (wS cI cJ ad x) sz) := by
  refine mo (QA := fun A => va_Qi (fun (r : Int32) (u : TS) => (r, u) = fnX3_locate x a0 a1 a2 a3 a4) (AT D (tz cI cJ cP) A (fun (u : TS) => (wS cI cJ ad u))) A) (by decide) (Nat.le_of_ble_eq_true rfl) ?_
  intro p e s m below meth c A ls H hx hb hr hml hown hG hlocks hnm hA hS hP hK hD hl hN
  have hown : s.vm.findClass RX3 = some m.cls := hown
  have hl : lv_has ls 9 [(0, .ref (ad 0)), (1, .int a0), (2, .int a1), (3, .int a2), (4, .int a3), (5, .int a4)] := hl
  refine lv_aload_n hx hb dX3_locate_0 rfl (lv_at hl 0 rfl) ?_
  refine lv_iload_n hx hb dX3_locate_1 rfl (lv_at hl 1 rfl) ?_
  refine lv_iload hx hb dX3_locate_2 (lv_at hl 5 rfl) ?_
  refine kFr (As := [.int (a0), .int (a4)]) (rest := []) hx hb hml hown hG hl (okX3_lookForDescriptor l D cI cJ cP ad H.size x a0 a4 hI g0) (cV 2 hG kw59 kw61 kw62 kw63 kw60 hdX3_lookForDescriptor ⟨by decide, by decide⟩) 0 3 rfl rfl hK hP hD hS hA hN rfl rfl (Nat.le_of_ble_eq_true rfl) dX3_locate_4 ⟨Nat.zero_le _, Nat.zero_le _⟩ (fun u1 q1 H locs hP hD hS => ?_)
  have j1 : ivX3_lookForDescriptorP u1 := by rw [q1]; exact ivX3_lookForDescriptor x a0 a4 hI g0
  refine lv_pop hx hb dX3_locate_7 rfl ?_
  refine lv_aload_n hx hb dX3_locate_8 rfl (lv_at hl 0 rfl) ?_
  refine va_get (D := D) (ci := 3) (v := .ref (ad 10)) hx hb hG inX3 hown hK hP 0 rfl rfl 3 (by decide) (hG _ kw32) (fun _ h9 => h9) rfl dX3_locate_9 ?_
  refine lv_iload_n hx hb dX3_locate_12 rfl (lv_at hl 2 rfl) ?_
  refine lv_iload_n hx hb dX3_locate_13 rfl (lv_at hl 3 rfl) ?_
  refine lv_iload hx hb dX3_locate_14 (lv_at hl 4 rfl) ?_
  refine kVi (As := [.int (a1), .int (a2), .int (a3)]) (rest := []) (W' := (fun _ => (wS cI cJ ad u1))) hx hb hml hown hG hl (okX1_refusal l D cI cJ cP (ad 10) H.size u1.2.2.2 a1 a2 a3 j1.2.2.2) (cV 3 hG kw64 kw65 kw66 kw67 kw43 hdX1_refusal ⟨by decide, by decide⟩) 10 1 rfl rfl hK hP hD hS hA hN [10] rfl rfl rfl (fun _ => rfl) (fun _ => rfl) rfl rfl (Nat.le_of_ble_eq_true rfl) dX3_locate_16 ⟨Nat.zero_le _, Nat.zero_le _⟩ (fun r2 _ q2 H locs hP hD hS => ?_)
  have j2 : ivX1_refusalP r2 := by rw [q2]; exact ivX1_refusal u1.2.2.2 a1 a2 a3 j1.2.2.2
  refine lv_istore (lv' := [(6, .int (r2)), (0, .ref (ad 0)), (1, .int (a0)), (2, .int (a1)), (3, .int (a2)), (4, .int (a3)), (5, .int (a4))]) hx hb dX3_locate_19 hl (by decide) rfl (fun ls hl => ?_)
  refine lv_iload hx hb dX3_locate_21 (lv_at hl 0 rfl) ?_
  refine lv_if_eq (tgt := 31) hx hb dX3_locate_23 (by decide) (fun h3 => ?_) (fun h3 => ?_)
  · refine lv_aload_n hx hb dX3_locate_31 rfl (lv_at hl 1 rfl) ?_
    refine va_get (D := D) (ci := 3) (v := .ref (ad 10)) hx hb hG inX3 hown hK hP 0 rfl rfl 3 (by decide) (hG _ kw32) (fun _ h9 => h9) rfl dX3_locate_32 ?_
    refine va_get (D := D) (ci := 1) (v := .int (u1.2.2.2.2.1)) hx hb hG inX1 hown hK hP 10 rfl rfl 1 (by decide) (hG _ kw68) (fun _ h9 => h9) rfl dX3_locate_35 ?_
    refine lv_if_ne (tgt := 53) hx hb dX3_locate_38 (by decide) (fun h4 => ?_) (fun h4 => ?_)
    · refine lv_aload_n hx hb dX3_locate_53 rfl (lv_at hl 1 rfl) ?_
      refine lv_iload_n hx hb dX3_locate_54 rfl (lv_at hl 2 rfl) ?_
      refine lv_iload_n hx hb dX3_locate_55 rfl (lv_at hl 3 rfl) ?_
      refine lv_bipush (v := 64) hx hb dX3_locate_56 (by decide) ?_
      refine lv_idiv hx hb dX3_locate_58 (by decide) ?_
      refine lv_iload hx hb dX3_locate_59 (lv_at hl 6 rfl) ?_
      refine kFl (As := [.int (a0), .int ((a1 / (64 : Int32))), .int (a4)]) (rest := []) hx hb hml hown hG hl (okX3_lookForPage l D cI cJ cP ad H.size u1 a0 (a1 / (64 : Int32)) a4 j1) (cV 3 hG kw69 kw70 kw71 kw72 kw60 hdX3_lookForPage ⟨by decide, by decide⟩) 0 3 rfl rfl hK hP hD hS hA hN rfl rfl (Nat.le_of_ble_eq_true rfl) dX3_locate_61 ⟨Nat.zero_le _, Nat.zero_le _⟩ (fun r5 u5 q5 H locs hP hD hS => ?_)
      have j5 : ivX3_lookForPageP (r5, u5) := by rw [q5]; exact ivX3_lookForPage u1 a0 (a1 / (64 : Int32)) a4 j1
      refine lv_lstore (lv' := [(7, .long (r5)), (6, .int (r2)), (0, .ref (ad 0)), (1, .int (a0)), (2, .int (a1)), (3, .int (a2)), (4, .int (a3)), (5, .int (a4))]) hx hb dX3_locate_64 hl (by decide) rfl (fun ls hl => ?_)
      refine lv_lload hx hb dX3_locate_66 (lv_at hl 0 rfl) ?_
      refine lv_ldc2 (v := 34359738368) hx hb hown (hG _ kw57) dX3_locate_68 ?_
      refine lv_land hx hb dX3_locate_71 ?_
      refine lv_lconst (v := 0) hx hb dX3_locate_72 (by decide) ?_
      refine lq_ne (tgt := 80) hx hb dX3_locate_73 dX3_locate_74 (by decide) (fun h6 => ?_) (fun h6 => ?_)
      · refine lv_lload hx hb dX3_locate_80 (lv_at hl 0 rfl) ?_
        refine lv_ldc2 (v := 64) hx hb hown (hG _ kw73) dX3_locate_82 ?_
        refine lv_lrem hx hb dX3_locate_85 (by decide) ?_
        refine lv_l2i hx hb dX3_locate_86 rfl ?_
        refine lv_bipush (v := 64) hx hb dX3_locate_87 (by decide) ?_
        refine lv_imul hx hb dX3_locate_89 ?_
        refine lv_iload_n hx hb dX3_locate_90 rfl (lv_at hl 4 rfl) ?_
        refine lv_bipush (v := 64) hx hb dX3_locate_91 (by decide) ?_
        refine lv_irem hx hb dX3_locate_93 (by decide) ?_
        refine lv_iadd hx hb dX3_locate_94 ?_
        exact reti (u := u5) hx hb hr hlocks hK hP hD hS dX3_locate_95 (by unfold fnX3_locate; rw [← q1]; (try dsimp only); rw [← q2]; (try dsimp only); rw [if_pos h3]; rw [if_neg h4]; rw [← q5]; (try dsimp only); rw [if_neg h6]; (try exact rfl))
      · refine lv_bipush (v := (-3)) hx hb dX3_locate_77 (by decide) ?_
        exact reti (u := u5) hx hb hr hlocks hK hP hD hS dX3_locate_79 (by unfold fnX3_locate; rw [← q1]; (try dsimp only); rw [← q2]; (try dsimp only); rw [if_pos h3]; rw [if_neg h4]; rw [← q5]; (try dsimp only); rw [if_pos h6]; (try exact rfl))
    · refine lv_aload_n hx hb dX3_locate_41 rfl (lv_at hl 1 rfl) ?_
      refine va_get (D := D) (ci := 3) (v := .ref (ad 10)) hx hb hG inX3 hown hK hP 0 rfl rfl 3 (by decide) (hG _ kw32) (fun _ h9 => h9) rfl dX3_locate_42 ?_
      refine va_get (D := D) (ci := 1) (v := .int (u1.2.2.2.2.2.1)) hx hb hG inX1 hown hK hP 10 rfl rfl 2 (by decide) (hG _ kw33) (fun _ h9 => h9) rfl dX3_locate_45 ?_
      refine lv_iload_n hx hb dX3_locate_48 rfl (lv_at hl 3 rfl) ?_
      refine k0SNi (As := [.int (u1.2.2.2.2.2.1), .int (a1)]) (rest := []) hx hb hml hown hG hl (okX4_sum l D cI cJ cP  H.size u1.2.2.2.2.2.1 a1 ) (cSN 2 hG kw34 (nl5 hN) kw35 kw5 hdX4_sum ⟨by decide, by decide⟩) hK hP hD hS hA hN rfl rfl (Nat.le_of_ble_eq_true rfl) dX3_locate_49 ⟨Nat.zero_le _, Nat.zero_le _⟩ (fun r7 q7 H locs hP hD hS => ?_)
      have j7 : i12 r7 := by rw [q7]; exact (sumX u1.2.2.2.2.2.1 a1)
      exact reti (u := u1) hx hb hr hlocks hK hP hD hS dX3_locate_52 (by unfold fnX3_locate; rw [← q1]; (try dsimp only); rw [← q2]; (try dsimp only); rw [if_pos h3]; rw [if_pos h4]; rw [← q7]; (try dsimp only); (try exact rfl))
  · refine lv_iconst (v := (-1)) hx hb dX3_locate_26 (by decide) ?_
    refine lv_iload hx hb dX3_locate_27 (lv_at hl 0 rfl) ?_
    refine lv_isub hx hb dX3_locate_29 ?_
    exact reti (u := u1) hx hb hr hlocks hK hP hD hS dX3_locate_30 (by unfold fnX3_locate; rw [← q1]; (try dsimp only); rw [← q2]; (try dsimp only); rw [if_neg h3]; (try exact rfl))
