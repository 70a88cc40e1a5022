def fnX5_bits  (a0 : Int64) (a1 : Int32) (a2 : Int32) : Int32 :=
  (((a0 >>> ((a1).toInt64 &&& 63))).toInt32 &&& (((1 : Int32) <<< (a2 &&& 31)) - (1 : Int32)))
set_option maxRecDepth 100000 in
set_option maxHeartbeats 4000000 in
theorem okX5_bits (l : Launch) (D : va_G) (cI cJ cP : ClassId)  (sz : Nat)  (a0 : Int64) (a1 : Int32) (a2 : Int32)  : Met l yX5_bits (Cond.code yX5_bits cX5_bits 4 (some .int) :: gG) { frames := 0, cells := 0, slots := 0, locals := 0 } (va_Pc [.long a0, .int a1, .int a2] (PRE D (tz cI cJ cP) sz [])) (va_Qi (fun (r : Int32) (_ : Unit) => r = fnX5_bits a0 a1 a2) (AT D (tz cI cJ cP) (va_A [] sz) (fun (_ : Unit) => [])) (va_A [] sz)) 0 0 (va_A [] sz) := by
  refine mo (QA := fun A => va_Qi (fun (r : Int32) (_ : Unit) => r = fnX5_bits a0 a1 a2) (AT D (tz cI cJ cP) A (fun (_ : Unit) => [])) A) (by decide) (Nat.le_of_ble_eq_true rfl) ?_
  intro p e s m below meth c A ls H hx hb hr hml hown hG hlocks hnm hA hS hP hK hD hl hN
  have hown : s.vm.findClass RX5 = some m.cls := hown
  have hl : lv_has ls 4 [(0, .long a0), (2, .int a1), (3, .int a2)] := hl
  refine lv_lload_n hx hb dX5_bits_0 rfl (lv_at hl 0 rfl) ?_
  refine lv_iload_n hx hb dX5_bits_1 rfl (lv_at hl 1 rfl) ?_
  refine lv_lshr hx hb dX5_bits_2 rfl ?_
  refine lv_l2i hx hb dX5_bits_3 rfl ?_
  refine lv_iconst (v := 1) hx hb dX5_bits_4 (by decide) ?_
  refine lv_iload_n hx hb dX5_bits_5 rfl (lv_at hl 2 rfl) ?_
  refine lv_ishl hx hb dX5_bits_6 ?_
  refine lv_iconst (v := 1) hx hb dX5_bits_7 (by decide) ?_
  refine lv_isub hx hb dX5_bits_8 ?_
  refine lv_iand hx hb dX5_bits_9 ?_
  exact reti (u := ()) hx hb hr hlocks hK hP hD hS dX5_bits_10 (by unfold fnX5_bits; (try exact rfl))
theorem f2M (w : Int64) (n : Int32) : i2 (fnX5_bits w n 2) := by unfold fnX5_bits; rw [show (((1 : Int32) <<< ((2 : Int32) &&& 31)) - 1) = 3 from by decide]; exact mk2 _
theorem f3M (w : Int64) (n : Int32) : i3 (fnX5_bits w n 3) := by unfold fnX5_bits; rw [show (((1 : Int32) <<< ((3 : Int32) &&& 31)) - 1) = 7 from by decide]; exact mk3 _
theorem f4M (w : Int64) (n : Int32) : i4 (fnX5_bits w n 4) := by unfold fnX5_bits; rw [show (((1 : Int32) <<< ((4 : Int32) &&& 31)) - 1) = 15 from by decide]; exact mk4 _
theorem f6M (w : Int64) (n : Int32) : i6 (fnX5_bits w n 6) := by unfold fnX5_bits; rw [show (((1 : Int32) <<< ((6 : Int32) &&& 31)) - 1) = 63 from by decide]; exact mk6 _
theorem f12M (w : Int64) (n : Int32) : i12 (fnX5_bits w n 12) := by unfold fnX5_bits; rw [show (((1 : Int32) <<< ((12 : Int32) &&& 31)) - 1) = 4095 from by decide]; exact mk12 _
def fnX5_greater  (a0 : Int32) (a1 : Int32) : Int32 :=
  if a0 ≤ a1 then
   a1
  else
   a0
set_option maxRecDepth 100000 in
set_option maxHeartbeats 4000000 in
theorem okX5_greater (l : Launch) (D : va_G) (cI cJ cP : ClassId)  (sz : Nat)  (a0 : Int32) (a1 : Int32)  : Met l yX5_greater (Cond.code yX5_greater cX5_greater 2 (some .int) :: gG) { frames := 0, cells := 0, slots := 0, locals := 0 } (va_Pc [.int a0, .int a1] (PRE D (tz cI cJ cP) sz [])) (va_Qi (fun (r : Int32) (_ : Unit) => r = fnX5_greater a0 a1) (AT D (tz cI cJ cP) (va_A [] sz) (fun (_ : Unit) => [])) (va_A [] sz)) 0 0 (va_A [] sz) := by
  refine mo (QA := fun A => va_Qi (fun (r : Int32) (_ : Unit) => r = fnX5_greater a0 a1) (AT D (tz cI cJ cP) A (fun (_ : Unit) => [])) A) (by decide) (Nat.le_of_ble_eq_true rfl) ?_
  intro p e s m below meth c A ls H hx hb hr hml hown hG hlocks hnm hA hS hP hK hD hl hN
  have hown : s.vm.findClass RX5 = some m.cls := hown
  have hl : lv_has ls 2 [(0, .int a0), (1, .int a1)] := hl
  refine lv_iload_n hx hb dX5_greater_0 rfl (lv_at hl 0 rfl) ?_
  refine lv_iload_n hx hb dX5_greater_1 rfl (lv_at hl 1 rfl) ?_
  refine lv_icmp_le (tgt := 9) hx hb dX5_greater_2 (by decide) (fun h1 => ?_) (fun h1 => ?_)
  · refine lv_iload_n hx hb dX5_greater_9 rfl (lv_at hl 1 rfl) ?_
    exact reti (u := ()) hx hb hr hlocks hK hP hD hS dX5_greater_10 (by unfold fnX5_greater; (try dsimp only); rw [if_pos h1]; (try exact rfl))
  · refine lv_iload_n hx hb dX5_greater_5 rfl (lv_at hl 0 rfl) ?_
    refine lv_goto (tgt := 10) hx hb dX5_greater_6 (by decide) ?_
    exact reti (u := ()) hx hb hr hlocks hK hP hD hS dX5_greater_10 (by unfold fnX5_greater; (try dsimp only); rw [if_neg h1]; (try exact rfl))
def fnX5_pointer  (a0 : Int32) (a1 : Int32) (a2 : Int32) : Int64 :=
  ((((8589934592 : Int64) ||| ((a0).toInt64 <<< (((24 : Int32)).toInt64 &&& 63))) ||| ((a2).toInt64 <<< (((21 : Int32)).toInt64 &&& 63))) ||| (a1).toInt64)
set_option maxRecDepth 100000 in
set_option maxHeartbeats 4000000 in
theorem okX5_pointer (l : Launch) (D : va_G) (cI cJ cP : ClassId)  (sz : Nat)  (a0 : Int32) (a1 : Int32) (a2 : Int32)  : Met l yX5_pointer (Cond.code yX5_pointer cX5_pointer 3 (some .long) :: gG) { frames := 0, cells := 0, slots := 0, locals := 0 } (va_Pc [.int a0, .int a1, .int a2] (PRE D (tz cI cJ cP) sz [])) (va_Ql (fun (r : Int64) (_ : Unit) => r = fnX5_pointer a0 a1 a2) (AT D (tz cI cJ cP) (va_A [] sz) (fun (_ : Unit) => [])) (va_A [] sz)) 0 0 (va_A [] sz) := by
  refine mo (QA := fun A => va_Ql (fun (r : Int64) (_ : Unit) => r = fnX5_pointer a0 a1 a2) (AT D (tz cI cJ cP) A (fun (_ : Unit) => [])) A) (by decide) (Nat.le_of_ble_eq_true rfl) ?_
  intro p e s m below meth c A ls H hx hb hr hml hown hG hlocks hnm hA hS hP hK hD hl hN
  have hown : s.vm.findClass RX5 = some m.cls := hown
  have hl : lv_has ls 3 [(0, .int a0), (1, .int a1), (2, .int a2)] := hl
  refine lv_ldc2 (v := 8589934592) hx hb hown (hG _ kw235) dX5_pointer_0 ?_
  refine lv_iload_n hx hb dX5_pointer_3 rfl (lv_at hl 0 rfl) ?_
  refine lv_i2l hx hb dX5_pointer_4 rfl ?_
  refine lv_bipush (v := 24) hx hb dX5_pointer_5 (by decide) ?_
  refine lv_lshl hx hb dX5_pointer_7 rfl ?_
  refine lv_lor hx hb dX5_pointer_8 ?_
  refine lv_iload_n hx hb dX5_pointer_9 rfl (lv_at hl 2 rfl) ?_
  refine lv_i2l hx hb dX5_pointer_10 rfl ?_
  refine lv_bipush (v := 21) hx hb dX5_pointer_11 (by decide) ?_
  refine lv_lshl hx hb dX5_pointer_13 rfl ?_
  refine lv_lor hx hb dX5_pointer_14 ?_
  refine lv_iload_n hx hb dX5_pointer_15 rfl (lv_at hl 1 rfl) ?_
  refine lv_i2l hx hb dX5_pointer_16 rfl ?_
  refine lv_lor hx hb dX5_pointer_17 ?_
  exact retl (u := ()) hx hb hr hlocks hK hP hD hS dX5_pointer_18 (by unfold fnX5_pointer; (try exact rfl))
def fnX5_barred  (a0 : Int64) (a1 : Int64) (a2 : Int32) (a3 : Int32) (a4 : Int32) : Int32 :=
  if (a0 &&& (34359738368 : Int64)) = (0 : Int64) then
   (1 : Int32)
  else
   let p2 := fnX5_bits a0 (12 : Int32) (12 : Int32)
   if a2 ≤ p2 then
    let p4 := fnX5_bits a1 (0 : Int32) (3 : Int32)
    let p5 := fnX5_bits a1 (3 : Int32) (3 : Int32)
    let p6 := fnX5_bits a1 ((9 : Int32) + a4) (1 : Int32)
    if p6 = (1 : Int32) then
     if a4 = (0 : Int32) then
      if p5 < a3 then
       (4 : Int32)
      else
       (0 : Int32)
     else
      if a4 = (1 : Int32) then
       if p4 < a3 then
        (4 : Int32)
       else
        (0 : Int32)
      else
       if a3 < p4 then
        (4 : Int32)
       else
        if p5 < a3 then
         (4 : Int32)
        else
         (0 : Int32)
    else
     (4 : Int32)
   else
    (3 : Int32)
abbrev ivX5_barredP (z : Int32) : Prop := i4 z
set_option maxRecDepth 100000 in
set_option maxHeartbeats 4000000 in
theorem ivX5_barred  (a0 : Int64) (a1 : Int64) (a2 : Int32) (a3 : Int32) (a4 : Int32)  : ivX5_barredP (fnX5_barred a0 a1 a2 a3 a4) := by
  unfold fnX5_barred
  try dsimp only
  refine iteI (fun h1 => ?_) (fun h1 => ?_)
  · exact (show i4 (1 : Int32) from by decide)
  · have j2 : i12 (fnX5_bits a0 (12 : Int32) (12 : Int32)) := (f12M a0 (12 : Int32))
    generalize fnX5_bits a0 (12 : Int32) (12 : Int32) = p2 at j2 ⊢
    refine iteI (fun h3 => ?_) (fun h3 => ?_)
    · have j4 : i3 (fnX5_bits a1 (0 : Int32) (3 : Int32)) := (f3M a1 (0 : Int32))
      generalize fnX5_bits a1 (0 : Int32) (3 : Int32) = p4 at j4 ⊢
      have j5 : i3 (fnX5_bits a1 (3 : Int32) (3 : Int32)) := (f3M a1 (3 : Int32))
      generalize fnX5_bits a1 (3 : Int32) (3 : Int32) = p5 at j5 ⊢
      generalize fnX5_bits a1 ((9 : Int32) + a4) (1 : Int32) = p6
      refine iteI (fun h7 => ?_) (fun h7 => ?_)
      · refine iteI (fun h8 => ?_) (fun h8 => ?_)
        · refine iteI (fun h13 => ?_) (fun h13 => ?_)
          · exact (show i4 (4 : Int32) from by decide)
          · exact (show i4 (0 : Int32) from by decide)
        · refine iteI (fun h9 => ?_) (fun h9 => ?_)
          · refine iteI (fun h12 => ?_) (fun h12 => ?_)
            · exact (show i4 (4 : Int32) from by decide)
            · exact (show i4 (0 : Int32) from by decide)
          · refine iteI (fun h10 => ?_) (fun h10 => ?_)
            · exact (show i4 (4 : Int32) from by decide)
            · refine iteI (fun h11 => ?_) (fun h11 => ?_)
              · exact (show i4 (4 : Int32) from by decide)
              · exact (show i4 (0 : Int32) from by decide)
      · exact (show i4 (4 : Int32) from by decide)
    · exact (show i4 (3 : Int32) from by decide)
set_option maxRecDepth 100000 in
set_option maxHeartbeats 4000000 in
theorem okX5_barred (l : Launch) (D : va_G) (cI cJ cP : ClassId)  (sz : Nat)  (a0 : Int64) (a1 : Int64) (a2 : Int32) (a3 : Int32) (a4 : Int32)  : Met l yX5_barred (Cond.code yX5_barred cX5_barred 10 (some .int) :: gG) { frames := 1, cells := 0, slots := 0, locals := 23 } (va_Pc [.long a0, .long a1, .int a2, .int a3, .int a4] (PRE D (tz cI cJ cP) sz [])) (va_Qi (fun (r : Int32) (_ : Unit) => r = fnX5_barred a0 a1 a2 a3 a4) (AT D (tz cI cJ cP) (va_A [] sz) (fun (_ : Unit) => [])) (va_A [] sz)) 0 0 (va_A [] sz) := by
  refine mo (QA := fun A => va_Qi (fun (r : Int32) (_ : Unit) => r = fnX5_barred a0 a1 a2 a3 a4) (AT D (tz cI cJ cP) A (fun (_ : Unit) => [])) A) (by decide) (Nat.le_of_ble_eq_true rfl) ?_
  intro p e s m below meth c A ls H hx hb hr hml hown hG hlocks hnm hA hS hP hK hD hl hN
  have hown : s.vm.findClass RX5 = some m.cls := hown
  have hl : lv_has ls 10 [(0, .long a0), (2, .long a1), (4, .int a2), (5, .int a3), (6, .int a4)] := hl
  refine lv_lload_n hx hb dX5_barred_0 rfl (lv_at hl 0 rfl) ?_
  refine lv_ldc2 (v := 34359738368) hx hb hown (hG _ kw236) dX5_barred_1 ?_
  refine lv_land hx hb dX5_barred_4 ?_
  refine lv_lconst (v := 0) hx hb dX5_barred_5 (by decide) ?_
  refine lq_ne (tgt := 12) hx hb dX5_barred_6 dX5_barred_7 (by decide) (fun h1 => ?_) (fun h1 => ?_)
  · refine lv_iload hx hb dX5_barred_12 (lv_at hl 2 rfl) ?_
    refine lv_lload_n hx hb dX5_barred_14 rfl (lv_at hl 0 rfl) ?_
    refine lv_bipush (v := 12) hx hb dX5_barred_15 (by decide) ?_
    refine lv_bipush (v := 12) hx hb dX5_barred_17 (by decide) ?_
    refine k0Si (As := [.long (a0), .int ((12 : Int32)), .int ((12 : Int32))]) (rest := [.int (a2)]) hx hb hml hown hG hl (okX5_bits l D cI cJ cP  H.size a0 (12 : Int32) (12 : Int32) ) (cS 3 hG kw237 kw239 kw240 kw238 hdX5_bits ⟨by decide, by decide⟩) hK hP hD hS hA hN rfl rfl (Nat.le_of_ble_eq_true rfl) dX5_barred_19 ⟨Nat.zero_le _, Nat.zero_le _⟩ (fun r2 q2 H locs hP hD hS => ?_)
    have j2 : i12 r2 := by rw [q2]; exact (f12M a0 (12 : Int32))
    refine lv_icmp_le (tgt := 27) hx hb dX5_barred_22 (by decide) (fun h3 => ?_) (fun h3 => ?_)
    · refine lv_lload_n hx hb dX5_barred_27 rfl (lv_at hl 1 rfl) ?_
      refine lv_iconst (v := 0) hx hb dX5_barred_28 (by decide) ?_
      refine lv_iconst (v := 3) hx hb dX5_barred_29 (by decide) ?_
      refine k0Si (As := [.long (a1), .int ((0 : Int32)), .int ((3 : Int32))]) (rest := []) hx hb hml hown hG hl (okX5_bits l D cI cJ cP  H.size a1 (0 : Int32) (3 : Int32) ) (cS 3 hG kw237 kw239 kw240 kw238 hdX5_bits ⟨by decide, by decide⟩) hK hP hD hS hA hN rfl rfl (Nat.le_of_ble_eq_true rfl) dX5_barred_30 ⟨Nat.zero_le _, Nat.zero_le _⟩ (fun r4 q4 H locs hP hD hS => ?_)
      have j4 : i3 r4 := by rw [q4]; exact (f3M a1 (0 : Int32))
      refine lv_istore (lv' := [(7, .int (r4)), (0, .long (a0)), (2, .long (a1)), (4, .int (a2)), (5, .int (a3)), (6, .int (a4))]) hx hb dX5_barred_33 hl (by decide) rfl (fun ls hl => ?_)
      refine lv_lload_n hx hb dX5_barred_35 rfl (lv_at hl 2 rfl) ?_
      refine lv_iconst (v := 3) hx hb dX5_barred_36 (by decide) ?_
      refine lv_iconst (v := 3) hx hb dX5_barred_37 (by decide) ?_
      refine k0Si (As := [.long (a1), .int ((3 : Int32)), .int ((3 : Int32))]) (rest := []) hx hb hml hown hG hl (okX5_bits l D cI cJ cP  H.size a1 (3 : Int32) (3 : Int32) ) (cS 3 hG kw237 kw239 kw240 kw238 hdX5_bits ⟨by decide, by decide⟩) hK hP hD hS hA hN rfl rfl (Nat.le_of_ble_eq_true rfl) dX5_barred_38 ⟨Nat.zero_le _, Nat.zero_le _⟩ (fun r5 q5 H locs hP hD hS => ?_)
      have j5 : i3 r5 := by rw [q5]; exact (f3M a1 (3 : Int32))
      refine lv_istore (lv' := [(8, .int (r5)), (7, .int (r4)), (0, .long (a0)), (2, .long (a1)), (4, .int (a2)), (5, .int (a3)), (6, .int (a4))]) hx hb dX5_barred_41 hl (by decide) rfl (fun ls hl => ?_)
      refine lv_lload_n hx hb dX5_barred_43 rfl (lv_at hl 3 rfl) ?_
      refine lv_bipush (v := 9) hx hb dX5_barred_44 (by decide) ?_
      refine lv_iload hx hb dX5_barred_46 (lv_at hl 6 rfl) ?_
      refine lv_iadd hx hb dX5_barred_48 ?_
      refine lv_iconst (v := 1) hx hb dX5_barred_49 (by decide) ?_
      refine k0Si (As := [.long (a1), .int (((9 : Int32) + a4)), .int ((1 : Int32))]) (rest := []) hx hb hml hown hG hl (okX5_bits l D cI cJ cP  H.size a1 ((9 : Int32) + a4) (1 : Int32) ) (cS 3 hG kw237 kw239 kw240 kw238 hdX5_bits ⟨by decide, by decide⟩) hK hP hD hS hA hN rfl rfl (Nat.le_of_ble_eq_true rfl) dX5_barred_50 ⟨Nat.zero_le _, Nat.zero_le _⟩ (fun r6 q6 H locs hP hD hS => ?_)
      refine lv_iconst (v := 1) hx hb dX5_barred_53 (by decide) ?_
      refine lv_icmp_ne (tgt := 106) hx hb dX5_barred_54 (by decide) (fun h7 => ?_) (fun h7 => ?_)
      · refine lv_iconst (v := 0) hx hb dX5_barred_106 (by decide) ?_
        refine lv_istore (lv' := [(9, .int ((0 : Int32))), (8, .int (r5)), (7, .int (r4)), (0, .long (a0)), (2, .long (a1)), (4, .int (a2)), (5, .int (a3)), (6, .int (a4))]) hx hb dX5_barred_107 hl (by decide) rfl (fun ls hl => ?_)
        refine lv_iload hx hb dX5_barred_109 (lv_at hl 0 rfl) ?_
        refine lv_if_eq (tgt := 118) hx hb dX5_barred_111 (by decide) (fun _ => ?_) (fun h9 => absurd (by decide) h9)
        refine lv_iconst (v := 4) hx hb dX5_barred_118 (by decide) ?_
        exact reti (u := ()) hx hb hr hlocks hK hP hD hS dX5_barred_119 (by unfold fnX5_barred; (try dsimp only); rw [if_neg h1]; rw [← q2]; (try dsimp only); rw [if_pos h3]; rw [← q4]; (try dsimp only); rw [← q5]; (try dsimp only); rw [← q6]; (try dsimp only); rw [if_neg h7]; (try exact rfl))
      · refine lv_iload hx hb dX5_barred_57 (lv_at hl 6 rfl) ?_
        refine lv_if_ne (tgt := 72) hx hb dX5_barred_59 (by decide) (fun h8 => ?_) (fun h8 => ?_)
        · refine lv_iload hx hb dX5_barred_72 (lv_at hl 6 rfl) ?_
          refine lv_iconst (v := 1) hx hb dX5_barred_74 (by decide) ?_
          refine lv_icmp_ne (tgt := 88) hx hb dX5_barred_75 (by decide) (fun h9 => ?_) (fun h9 => ?_)
          · refine lv_iload hx hb dX5_barred_88 (lv_at hl 5 rfl) ?_
            refine lv_iload hx hb dX5_barred_90 (lv_at hl 1 rfl) ?_
            refine lv_icmp_lt (tgt := 106) hx hb dX5_barred_92 (by decide) (fun h10 => ?_) (fun h10 => ?_)
            · refine lv_iconst (v := 0) hx hb dX5_barred_106 (by decide) ?_
              refine lv_istore (lv' := [(9, .int ((0 : Int32))), (8, .int (r5)), (7, .int (r4)), (0, .long (a0)), (2, .long (a1)), (4, .int (a2)), (5, .int (a3)), (6, .int (a4))]) hx hb dX5_barred_107 hl (by decide) rfl (fun ls hl => ?_)
              refine lv_iload hx hb dX5_barred_109 (lv_at hl 0 rfl) ?_
              refine lv_if_eq (tgt := 118) hx hb dX5_barred_111 (by decide) (fun _ => ?_) (fun h9 => absurd (by decide) h9)
              refine lv_iconst (v := 4) hx hb dX5_barred_118 (by decide) ?_
              exact reti (u := ()) hx hb hr hlocks hK hP hD hS dX5_barred_119 (by unfold fnX5_barred; (try dsimp only); rw [if_neg h1]; rw [← q2]; (try dsimp only); rw [if_pos h3]; rw [← q4]; (try dsimp only); rw [← q5]; (try dsimp only); rw [← q6]; (try dsimp only); rw [if_pos h7]; rw [if_neg h8]; rw [if_neg h9]; rw [if_pos h10]; (try exact rfl))
            · refine lv_iload hx hb dX5_barred_95 (lv_at hl 5 rfl) ?_
              refine lv_iload hx hb dX5_barred_97 (lv_at hl 0 rfl) ?_
              refine lv_icmp_gt (tgt := 106) hx hb dX5_barred_99 (by decide) (fun h11 => ?_) (fun h11 => ?_)
              · refine lv_iconst (v := 0) hx hb dX5_barred_106 (by decide) ?_
                refine lv_istore (lv' := [(9, .int ((0 : Int32))), (8, .int (r5)), (7, .int (r4)), (0, .long (a0)), (2, .long (a1)), (4, .int (a2)), (5, .int (a3)), (6, .int (a4))]) hx hb dX5_barred_107 hl (by decide) rfl (fun ls hl => ?_)
                refine lv_iload hx hb dX5_barred_109 (lv_at hl 0 rfl) ?_
                refine lv_if_eq (tgt := 118) hx hb dX5_barred_111 (by decide) (fun _ => ?_) (fun h9 => absurd (by decide) h9)
                refine lv_iconst (v := 4) hx hb dX5_barred_118 (by decide) ?_
                exact reti (u := ()) hx hb hr hlocks hK hP hD hS dX5_barred_119 (by unfold fnX5_barred; (try dsimp only); rw [if_neg h1]; rw [← q2]; (try dsimp only); rw [if_pos h3]; rw [← q4]; (try dsimp only); rw [← q5]; (try dsimp only); rw [← q6]; (try dsimp only); rw [if_pos h7]; rw [if_neg h8]; rw [if_neg h9]; rw [if_neg h10]; rw [if_pos h11]; (try exact rfl))
              · refine lv_iconst (v := 1) hx hb dX5_barred_102 (by decide) ?_
                refine lv_goto (tgt := 107) hx hb dX5_barred_103 (by decide) ?_
                refine lv_istore (lv' := [(9, .int ((1 : Int32))), (8, .int (r5)), (7, .int (r4)), (0, .long (a0)), (2, .long (a1)), (4, .int (a2)), (5, .int (a3)), (6, .int (a4))]) hx hb dX5_barred_107 hl (by decide) rfl (fun ls hl => ?_)
                refine lv_iload hx hb dX5_barred_109 (lv_at hl 0 rfl) ?_
                refine lv_if_eq (tgt := 118) hx hb dX5_barred_111 (by decide) (fun h9 => absurd h9 (by decide)) (fun _ => ?_)
                refine lv_iconst (v := 0) hx hb dX5_barred_114 (by decide) ?_
                refine lv_goto (tgt := 119) hx hb dX5_barred_115 (by decide) ?_
                exact reti (u := ()) hx hb hr hlocks hK hP hD hS dX5_barred_119 (by unfold fnX5_barred; (try dsimp only); rw [if_neg h1]; rw [← q2]; (try dsimp only); rw [if_pos h3]; rw [← q4]; (try dsimp only); rw [← q5]; (try dsimp only); rw [← q6]; (try dsimp only); rw [if_pos h7]; rw [if_neg h8]; rw [if_neg h9]; rw [if_neg h10]; rw [if_neg h11]; (try exact rfl))
          · refine lv_iload hx hb dX5_barred_78 (lv_at hl 5 rfl) ?_
            refine lv_iload hx hb dX5_barred_80 (lv_at hl 1 rfl) ?_
            refine lv_icmp_gt (tgt := 106) hx hb dX5_barred_82 (by decide) (fun h12 => ?_) (fun h12 => ?_)
            · refine lv_iconst (v := 0) hx hb dX5_barred_106 (by decide) ?_
              refine lv_istore (lv' := [(9, .int ((0 : Int32))), (8, .int (r5)), (7, .int (r4)), (0, .long (a0)), (2, .long (a1)), (4, .int (a2)), (5, .int (a3)), (6, .int (a4))]) hx hb dX5_barred_107 hl (by decide) rfl (fun ls hl => ?_)
              refine lv_iload hx hb dX5_barred_109 (lv_at hl 0 rfl) ?_
              refine lv_if_eq (tgt := 118) hx hb dX5_barred_111 (by decide) (fun _ => ?_) (fun h9 => absurd (by decide) h9)
              refine lv_iconst (v := 4) hx hb dX5_barred_118 (by decide) ?_
              exact reti (u := ()) hx hb hr hlocks hK hP hD hS dX5_barred_119 (by unfold fnX5_barred; (try dsimp only); rw [if_neg h1]; rw [← q2]; (try dsimp only); rw [if_pos h3]; rw [← q4]; (try dsimp only); rw [← q5]; (try dsimp only); rw [← q6]; (try dsimp only); rw [if_pos h7]; rw [if_neg h8]; rw [if_pos h9]; rw [if_pos h12]; (try exact rfl))
            · refine lv_goto (tgt := 102) hx hb dX5_barred_85 (by decide) ?_
              refine lv_iconst (v := 1) hx hb dX5_barred_102 (by decide) ?_
              refine lv_goto (tgt := 107) hx hb dX5_barred_103 (by decide) ?_
              refine lv_istore (lv' := [(9, .int ((1 : Int32))), (8, .int (r5)), (7, .int (r4)), (0, .long (a0)), (2, .long (a1)), (4, .int (a2)), (5, .int (a3)), (6, .int (a4))]) hx hb dX5_barred_107 hl (by decide) rfl (fun ls hl => ?_)
              refine lv_iload hx hb dX5_barred_109 (lv_at hl 0 rfl) ?_
              refine lv_if_eq (tgt := 118) hx hb dX5_barred_111 (by decide) (fun h9 => absurd h9 (by decide)) (fun _ => ?_)
              refine lv_iconst (v := 0) hx hb dX5_barred_114 (by decide) ?_
              refine lv_goto (tgt := 119) hx hb dX5_barred_115 (by decide) ?_
              exact reti (u := ()) hx hb hr hlocks hK hP hD hS dX5_barred_119 (by unfold fnX5_barred; (try dsimp only); rw [if_neg h1]; rw [← q2]; (try dsimp only); rw [if_pos h3]; rw [← q4]; (try dsimp only); rw [← q5]; (try dsimp only); rw [← q6]; (try dsimp only); rw [if_pos h7]; rw [if_neg h8]; rw [if_pos h9]; rw [if_neg h12]; (try exact rfl))
        · refine lv_iload hx hb dX5_barred_62 (lv_at hl 5 rfl) ?_
          refine lv_iload hx hb dX5_barred_64 (lv_at hl 0 rfl) ?_
          refine lv_icmp_gt (tgt := 106) hx hb dX5_barred_66 (by decide) (fun h13 => ?_) (fun h13 => ?_)
          · refine lv_iconst (v := 0) hx hb dX5_barred_106 (by decide) ?_
            refine lv_istore (lv' := [(9, .int ((0 : Int32))), (8, .int (r5)), (7, .int (r4)), (0, .long (a0)), (2, .long (a1)), (4, .int (a2)), (5, .int (a3)), (6, .int (a4))]) hx hb dX5_barred_107 hl (by decide) rfl (fun ls hl => ?_)
            refine lv_iload hx hb dX5_barred_109 (lv_at hl 0 rfl) ?_
            refine lv_if_eq (tgt := 118) hx hb dX5_barred_111 (by decide) (fun _ => ?_) (fun h9 => absurd (by decide) h9)
            refine lv_iconst (v := 4) hx hb dX5_barred_118 (by decide) ?_
            exact reti (u := ()) hx hb hr hlocks hK hP hD hS dX5_barred_119 (by unfold fnX5_barred; (try dsimp only); rw [if_neg h1]; rw [← q2]; (try dsimp only); rw [if_pos h3]; rw [← q4]; (try dsimp only); rw [← q5]; (try dsimp only); rw [← q6]; (try dsimp only); rw [if_pos h7]; rw [if_pos h8]; rw [if_pos h13]; (try exact rfl))
          · refine lv_goto (tgt := 102) hx hb dX5_barred_69 (by decide) ?_
            refine lv_iconst (v := 1) hx hb dX5_barred_102 (by decide) ?_
            refine lv_goto (tgt := 107) hx hb dX5_barred_103 (by decide) ?_
            refine lv_istore (lv' := [(9, .int ((1 : Int32))), (8, .int (r5)), (7, .int (r4)), (0, .long (a0)), (2, .long (a1)), (4, .int (a2)), (5, .int (a3)), (6, .int (a4))]) hx hb dX5_barred_107 hl (by decide) rfl (fun ls hl => ?_)
            refine lv_iload hx hb dX5_barred_109 (lv_at hl 0 rfl) ?_
            refine lv_if_eq (tgt := 118) hx hb dX5_barred_111 (by decide) (fun h9 => absurd h9 (by decide)) (fun _ => ?_)
            refine lv_iconst (v := 0) hx hb dX5_barred_114 (by decide) ?_
            refine lv_goto (tgt := 119) hx hb dX5_barred_115 (by decide) ?_
            exact reti (u := ()) hx hb hr hlocks hK hP hD hS dX5_barred_119 (by unfold fnX5_barred; (try dsimp only); rw [if_neg h1]; rw [← q2]; (try dsimp only); rw [if_pos h3]; rw [← q4]; (try dsimp only); rw [← q5]; (try dsimp only); rw [← q6]; (try dsimp only); rw [if_pos h7]; rw [if_pos h8]; rw [if_neg h13]; (try exact rfl))
    · refine lv_iconst (v := 3) hx hb dX5_barred_25 (by decide) ?_
      exact reti (u := ()) hx hb hr hlocks hK hP hD hS dX5_barred_26 (by unfold fnX5_barred; (try dsimp only); rw [if_neg h1]; rw [← q2]; (try dsimp only); rw [if_neg h3]; (try exact rfl))
  · refine lv_iconst (v := 1) hx hb dX5_barred_10 (by decide) ?_
    exact reti (u := ()) hx hb hr hlocks hK hP hD hS dX5_barred_11 (by unfold fnX5_barred; (try dsimp only); rw [if_pos h1]; (try exact rfl))
def fnX5_thrown (x : TM)  : Int32 :=
  x.1
set_option maxRecDepth 100000 in
set_option maxHeartbeats 4000000 in
theorem okX5_thrown (l : Launch) (D : va_G) (cI cJ cP : ClassId) (ad : Nat → Nat) (sz : Nat) (x : TM)  (hI : iM x) : Met l yX5_thrown (Cond.code yX5_thrown cX5_thrown 1 (some .int) :: gG) { frames := 0, cells := 0, slots := 0, locals := 0 } (va_Pc [.ref (ad 0)] (PRE D (tz cI cJ cP) sz (wM cI cJ ad x))) (va_Qi (fun (r : Int32) (_ : Unit) => r = fnX5_thrown x) (AT D (tz cI cJ cP) (va_A (wM cI cJ ad x) sz) (fun (_ : Unit) => (wM cI cJ ad x))) (va_A (wM cI cJ ad x) sz)) 0 0 (va_A (wM cI cJ ad x) sz) := by
  refine mo (QA := fun A => va_Qi (fun (r : Int32) (_ : Unit) => r = fnX5_thrown x) (AT D (tz cI cJ cP) A (fun (_ : Unit) => (wM cI cJ ad x))) A) (by decide) (Nat.le_of_ble_eq_true rfl) ?_
  intro p e s m below meth c A ls H hx hb hr hml hown hG hlocks hnm hA hS hP hK hD hl hN
  have hown : s.vm.findClass RX5 = some m.cls := hown
  have hl : lv_has ls 1 [(0, .ref (ad 0))] := hl
  refine lv_aload_n hx hb dX5_thrown_0 rfl (lv_at hl 0 rfl) ?_
  refine va_get (D := D) (ci := 5) (v := .int (x.1)) hx hb hG inX5 hown hK hP 0 rfl rfl 0 (by decide) (hG _ kw241) (fun _ h9 => h9) rfl dX5_thrown_1 ?_
  exact reti (u := ()) hx hb hr hlocks hK hP hD hS dX5_thrown_4 (by unfold fnX5_thrown; (try exact rfl))
def fnX5_wrong (x : TM) (a0 : Int32) (a1 : Int32) (a2 : Int32) : TM :=
  if x.2.2.2.2.2.2.2.2.2.2.2.1.1 ≤ (0 : Int32) then
   (x.1, x.2.1, x.2.2.1, x.2.2.2.1, x.2.2.2.2.1, x.2.2.2.2.2.1, x.2.2.2.2.2.2.1, x.2.2.2.2.2.2.2.1, x.2.2.2.2.2.2.2.2.1, x.2.2.2.2.2.2.2.2.2.1, x.2.2.2.2.2.2.2.2.2.2.1, (a0, a1, a2), x.2.2.2.2.2.2.2.2.2.2.2.2.1, x.2.2.2.2.2.2.2.2.2.2.2.2.2.1, x.2.2.2.2.2.2.2.2.2.2.2.2.2.2)
  else
   x
abbrev ivX5_wrongP (z : TM) : Prop := iM z
set_option maxRecDepth 100000 in
set_option maxHeartbeats 4000000 in
theorem ivX5_wrong (x : TM) (a0 : Int32) (a1 : Int32) (a2 : Int32) (hI : iM x) (g0 : i4 a0) : ivX5_wrongP (fnX5_wrong x a0 a1 a2) := by
  unfold fnX5_wrong
  try dsimp only
  refine iteI (fun h1 => ?_) (fun h1 => ?_)
  · exact ⟨hI.1, hI.2.1, hI.2.2.1, hI.2.2.2.1, hI.2.2.2.2.1, hI.2.2.2.2.2.1, g0, hI.2.2.2.2.2.2.2⟩
  · exact hI
set_option maxRecDepth 100000 in
set_option maxHeartbeats 4000000 in
theorem okX5_wrong (l : Launch) (D : va_G) (cI cJ cP : ClassId) (ad : Nat → Nat) (sz : Nat) (x : TM) (a0 : Int32) (a1 : Int32) (a2 : Int32) (hI : iM x) (g0 : i4 a0) : Met l yX5_wrong (Cond.code yX5_wrong cX5_wrong 4 none :: gG) { frames := 0, cells := 0, slots := 0, locals := 0 } (va_Pc [.ref (ad 0), .int a0, .int a1, .int a2] (PRE D (tz cI cJ cP) sz (wM cI cJ ad x))) (va_Qv (fun (u : TM) => u = fnX5_wrong x a0 a1 a2) (AT D (tz cI cJ cP) (va_A (wM cI cJ ad x) sz) (fun (u : TM) => (wM cI cJ ad u))) (va_A (wM cI cJ ad x) sz)) 0 0 (va_A (wM cI cJ ad x) sz) := by
  refine mo (QA := fun A => va_Qv (fun (u : TM) => u = fnX5_wrong x a0 a1 a2) (AT D (tz cI cJ cP) A (fun (u : TM) => (wM cI cJ ad u))) A) (by decide) (Nat.le_of_ble_eq_true rfl) ?_
  intro p e s m below meth c A ls H hx hb hr hml hown hG hlocks hnm hA hS hP hK hD hl hN
  have hown : s.vm.findClass RX5 = some m.cls := hown
  have hl : lv_has ls 4 [(0, .ref (ad 0)), (1, .int a0), (2, .int a1), (3, .int a2)] := hl
  refine lv_aload_n hx hb dX5_wrong_0 rfl (lv_at hl 0 rfl) ?_
  refine va_get (D := D) (ci := 5) (v := .int (x.2.2.2.2.2.2.2.2.2.2.2.1.1)) hx hb hG inX5 hown hK hP 0 rfl rfl 28 (by decide) (hG _ kw242) (fun _ h9 => h9) rfl dX5_wrong_1 ?_
  refine lv_if_le (tgt := 8) hx hb dX5_wrong_4 (by decide) (fun h1 => ?_) (fun h1 => ?_)
  · refine lv_aload_n hx hb dX5_wrong_8 rfl (lv_at hl 0 rfl) ?_
    refine lv_iload_n hx hb dX5_wrong_9 rfl (lv_at hl 1 rfl) ?_
    refine pu (D := D) (ci := 5) (v := .int (a0)) (ty := .int) (W' := (wM cI cJ ad (x.1, x.2.1, x.2.2.1, x.2.2.2.1, x.2.2.2.2.1, x.2.2.2.2.2.1, x.2.2.2.2.2.2.1, x.2.2.2.2.2.2.2.1, x.2.2.2.2.2.2.2.2.1, x.2.2.2.2.2.2.2.2.2.1, x.2.2.2.2.2.2.2.2.2.2.1, (a0, x.2.2.2.2.2.2.2.2.2.2.2.1.2.1, x.2.2.2.2.2.2.2.2.2.2.2.1.2.2), x.2.2.2.2.2.2.2.2.2.2.2.2.1, x.2.2.2.2.2.2.2.2.2.2.2.2.2.1, x.2.2.2.2.2.2.2.2.2.2.2.2.2.2))) hx hb hG inX5 tyX5 tyokX5 nmX5 hown hK hP hD hS 0 rfl rfl 28 (by decide) (hG _ kw242) (fun _ h9 => h9) rfl (by decide +kernel) rfl rfl (Nat.le_of_ble_eq_true rfl) dX5_wrong_10 rfl (fun H locs hP hD hS => ?_)
    refine lv_aload_n hx hb dX5_wrong_13 rfl (lv_at hl 0 rfl) ?_
    refine lv_iload_n hx hb dX5_wrong_14 rfl (lv_at hl 2 rfl) ?_
    refine pu (D := D) (ci := 5) (v := .int (a1)) (ty := .int) (W' := (wM cI cJ ad (x.1, x.2.1, x.2.2.1, x.2.2.2.1, x.2.2.2.2.1, x.2.2.2.2.2.1, x.2.2.2.2.2.2.1, x.2.2.2.2.2.2.2.1, x.2.2.2.2.2.2.2.2.1, x.2.2.2.2.2.2.2.2.2.1, x.2.2.2.2.2.2.2.2.2.2.1, (a0, a1, x.2.2.2.2.2.2.2.2.2.2.2.1.2.2), x.2.2.2.2.2.2.2.2.2.2.2.2.1, x.2.2.2.2.2.2.2.2.2.2.2.2.2.1, x.2.2.2.2.2.2.2.2.2.2.2.2.2.2))) hx hb hG inX5 tyX5 tyokX5 nmX5 hown hK hP hD hS 0 rfl rfl 29 (by decide) (hG _ kw243) (fun _ h9 => h9) rfl (by decide +kernel) rfl rfl (Nat.le_of_ble_eq_true rfl) dX5_wrong_15 rfl (fun H locs hP hD hS => ?_)
    refine lv_aload_n hx hb dX5_wrong_18 rfl (lv_at hl 0 rfl) ?_
    refine lv_iload_n hx hb dX5_wrong_19 rfl (lv_at hl 3 rfl) ?_
    refine pu (D := D) (ci := 5) (v := .int (a2)) (ty := .int) (W' := (wM cI cJ ad (x.1, x.2.1, x.2.2.1, x.2.2.2.1, x.2.2.2.2.1, x.2.2.2.2.2.1, x.2.2.2.2.2.2.1, x.2.2.2.2.2.2.2.1, x.2.2.2.2.2.2.2.2.1, x.2.2.2.2.2.2.2.2.2.1, x.2.2.2.2.2.2.2.2.2.2.1, (a0, a1, a2), x.2.2.2.2.2.2.2.2.2.2.2.2.1, x.2.2.2.2.2.2.2.2.2.2.2.2.2.1, x.2.2.2.2.2.2.2.2.2.2.2.2.2.2))) hx hb hG inX5 tyX5 tyokX5 nmX5 hown hK hP hD hS 0 rfl rfl 30 (by decide) (hG _ kw244) (fun _ h9 => h9) rfl (by decide +kernel) rfl rfl (Nat.le_of_ble_eq_true rfl) dX5_wrong_20 rfl (fun H locs hP hD hS => ?_)
    exact retv (u := (x.1, x.2.1, x.2.2.1, x.2.2.2.1, x.2.2.2.2.1, x.2.2.2.2.2.1, x.2.2.2.2.2.2.1, x.2.2.2.2.2.2.2.1, x.2.2.2.2.2.2.2.2.1, x.2.2.2.2.2.2.2.2.2.1, x.2.2.2.2.2.2.2.2.2.2.1, (a0, a1, a2), x.2.2.2.2.2.2.2.2.2.2.2.2.1, x.2.2.2.2.2.2.2.2.2.2.2.2.2.1, x.2.2.2.2.2.2.2.2.2.2.2.2.2.2)) hx hb hr hlocks hK hP hD hS dX5_wrong_23 (by unfold fnX5_wrong; (try dsimp only); rw [if_pos h1]; (try exact rfl))
  · exact retv (u := x) hx hb hr hlocks hK hP hD hS dX5_wrong_7 (by unfold fnX5_wrong; (try dsimp only); rw [if_neg h1]; (try exact rfl))
def fnX5_wrongHere (x : TM) (a0 : Int32) : TM :=
  let p1 := fnX5_wrong x a0 x.2.2.2.2.2.2.2.1.1 x.2.2.2.2.2.2.2.1.2.1
  p1
abbrev ivX5_wrongHereP (z : TM) : Prop := iM z
set_option maxRecDepth 100000 in
set_option maxHeartbeats 4000000 in
theorem ivX5_wrongHere (x : TM) (a0 : Int32) (hI : iM x) (g0 : i4 a0) : ivX5_wrongHereP (fnX5_wrongHere x a0) := by
  unfold fnX5_wrongHere
  try dsimp only
  have j1 : ivX5_wrongP (fnX5_wrong x a0 x.2.2.2.2.2.2.2.1.1 x.2.2.2.2.2.2.2.1.2.1) := ivX5_wrong x a0 x.2.2.2.2.2.2.2.1.1 x.2.2.2.2.2.2.2.1.2.1 hI g0
  generalize fnX5_wrong x a0 x.2.2.2.2.2.2.2.1.1 x.2.2.2.2.2.2.2.1.2.1 = p1 at j1 ⊢
  exact j1
set_option maxRecDepth 100000 in
set_option maxHeartbeats 4000000 in
theorem okX5_wrongHere (l : Launch) (D : va_G) (cI cJ cP : ClassId) (ad : Nat → Nat) (sz : Nat) (x : TM) (a0 : Int32) (hI : iM x) (g0 : i4 a0) : Met l yX5_wrongHere (Cond.code yX5_wrongHere cX5_wrongHere 2 none :: gG) { frames := 1, cells := 0, slots := 0, locals := 23 } (va_Pc [.ref (ad 0), .int a0] (PRE D (tz cI cJ cP) sz (wM cI cJ ad x))) (va_Qv (fun (u : TM) => u = fnX5_wrongHere x a0) (AT D (tz cI cJ cP) (va_A (wM cI cJ ad x) sz) (fun (u : TM) => (wM cI cJ ad u))) (va_A (wM cI cJ ad x) sz)) 0 0 (va_A (wM cI cJ ad x) sz) := by
  refine mo (QA := fun A => va_Qv (fun (u : TM) => u = fnX5_wrongHere x a0) (AT D (tz cI cJ cP) A (fun (u : TM) => (wM cI cJ ad u))) A) (by decide) (Nat.le_of_ble_eq_true rfl) ?_
  intro p e s m below meth c A ls H hx hb hr hml hown hG hlocks hnm hA hS hP hK hD hl hN
  have hown : s.vm.findClass RX5 = some m.cls := hown
  have hl : lv_has ls 2 [(0, .ref (ad 0)), (1, .int a0)] := hl
  refine lv_aload_n hx hb dX5_wrongHere_0 rfl (lv_at hl 0 rfl) ?_
  refine lv_iload_n hx hb dX5_wrongHere_1 rfl (lv_at hl 1 rfl) ?_
  refine lv_aload_n hx hb dX5_wrongHere_2 rfl (lv_at hl 0 rfl) ?_
  refine va_get (D := D) (ci := 5) (v := .int (x.2.2.2.2.2.2.2.1.1)) hx hb hG inX5 hown hK hP 0 rfl rfl 15 (by decide) (hG _ kw245) (fun _ h9 => h9) rfl dX5_wrongHere_3 ?_
  refine lv_aload_n hx hb dX5_wrongHere_6 rfl (lv_at hl 0 rfl) ?_
  refine va_get (D := D) (ci := 5) (v := .int (x.2.2.2.2.2.2.2.1.2.1)) hx hb hG inX5 hown hK hP 0 rfl rfl 16 (by decide) (hG _ kw246) (fun _ h9 => h9) rfl dX5_wrongHere_7 ?_
  refine kFv (As := [.int (a0), .int (x.2.2.2.2.2.2.2.1.1), .int (x.2.2.2.2.2.2.2.1.2.1)]) (rest := []) hx hb hml hown hG hl (okX5_wrong l D cI cJ cP ad H.size x a0 x.2.2.2.2.2.2.2.1.1 x.2.2.2.2.2.2.2.1.2.1 hI g0) (cV 3 hG kw247 kw248 kw249 kw250 kw238 hdX5_wrong ⟨by decide, by decide⟩) 0 5 rfl rfl hK hP hD hS hA hN rfl rfl (Nat.le_of_ble_eq_true rfl) dX5_wrongHere_10 ⟨Nat.zero_le _, Nat.zero_le _⟩ (fun u1 q1 H locs hP hD hS => ?_)
  have j1 : ivX5_wrongP u1 := by rw [q1]; exact ivX5_wrong x a0 x.2.2.2.2.2.2.2.1.1 x.2.2.2.2.2.2.2.1.2.1 hI g0
  exact retv (u := u1) hx hb hr hlocks hK hP hD hS dX5_wrongHere_13 (by unfold fnX5_wrongHere; rw [← q1]; (try dsimp only); (try exact rfl))
def fnX5_findDescriptor (x : TM) (a0 : Int32) : Int32 :=
  if x.2.2.1.1 ≤ (0 : Int32) then
   (-1 : Int32)
  else
   if (x.2.2.1.2.1 0) = a0 then
    (0 : Int32)
   else
    if x.2.2.1.1 ≤ (1 : Int32) then
     (-1 : Int32)
    else
     if (x.2.2.1.2.1 1) = a0 then
      (1 : Int32)
     else
      if x.2.2.1.1 ≤ (2 : Int32) then
       (-1 : Int32)
      else
       if (x.2.2.1.2.1 2) = a0 then
        (2 : Int32)
       else
        if x.2.2.1.1 ≤ (3 : Int32) then
         (-1 : Int32)
        else
         if (x.2.2.1.2.1 3) = a0 then
          (3 : Int32)
         else
          (-1 : Int32)
abbrev ivX5_findDescriptorP (z : Int32) : Prop := ipl z
set_option maxRecDepth 100000 in
set_option maxHeartbeats 4000000 in
theorem ivX5_findDescriptor (x : TM) (a0 : Int32) (hI : iM x) : ivX5_findDescriptorP (fnX5_findDescriptor x a0) := by
  unfold fnX5_findDescriptor
  try dsimp only
  refine iteI (fun h1 => ?_) (fun h1 => ?_)
  · exact (Or.inl rfl)
  · refine iteI (fun h2 => ?_) (fun h2 => ?_)
    · exact (Or.inr (by decide))
    · refine iteI (fun h3 => ?_) (fun h3 => ?_)
      · exact (Or.inl rfl)
      · refine iteI (fun h4 => ?_) (fun h4 => ?_)
        · exact (Or.inr (by decide))
        · refine iteI (fun h5 => ?_) (fun h5 => ?_)
          · exact (Or.inl rfl)
          · refine iteI (fun h6 => ?_) (fun h6 => ?_)
            · exact (Or.inr (by decide))
            · refine iteI (fun h7 => ?_) (fun h7 => ?_)
              · exact (Or.inl rfl)
              · refine iteI (fun h8 => ?_) (fun h8 => ?_)
                · exact (Or.inr (by decide))
                · exact (Or.inl rfl)
set_option maxRecDepth 100000 in
set_option maxHeartbeats 4000000 in
theorem okX5_findDescriptor (l : Launch) (D : va_G) (cI cJ cP : ClassId) (ad : Nat → Nat) (sz : Nat) (x : TM) (a0 : Int32) (hI : iM x) : Met l yX5_findDescriptor (Cond.code yX5_findDescriptor cX5_findDescriptor 3 (some .int) :: gG) { frames := 0, cells := 0, slots := 0, locals := 0 } (va_Pc [.ref (ad 0), .int a0] (PRE D (tz cI cJ cP) sz (wM cI cJ ad x))) (va_Qi (fun (r : Int32) (_ : Unit) => r = fnX5_findDescriptor x a0) (AT D (tz cI cJ cP) (va_A (wM cI cJ ad x) sz) (fun (_ : Unit) => (wM cI cJ ad x))) (va_A (wM cI cJ ad x) sz)) 0 0 (va_A (wM cI cJ ad x) sz) := by
  refine mo (QA := fun A => va_Qi (fun (r : Int32) (_ : Unit) => r = fnX5_findDescriptor x a0) (AT D (tz cI cJ cP) A (fun (_ : Unit) => (wM cI cJ ad x))) A) (by decide) (Nat.le_of_ble_eq_true rfl) ?_
  intro p e s m below meth c A ls H hx hb hr hml hown hG hlocks hnm hA hS hP hK hD hl hN
  have hown : s.vm.findClass RX5 = some m.cls := hown
  have hl : lv_has ls 3 [(0, .ref (ad 0)), (1, .int a0)] := hl
  refine lv_iconst (v := 0) hx hb dX5_findDescriptor_0 (by decide) ?_
  refine lv_istore_n (lv' := [(2, .int ((0 : Int32))), (0, .ref (ad 0)), (1, .int (a0))]) hx hb dX5_findDescriptor_1 rfl hl (by decide) rfl (fun ls hl => ?_)
  refine lv_iload_n hx hb dX5_findDescriptor_2 rfl (lv_at hl 0 rfl) ?_
  refine lv_aload_n hx hb dX5_findDescriptor_3 rfl (lv_at hl 1 rfl) ?_
  refine va_get (D := D) (ci := 5) (v := .int (x.2.2.1.1)) hx hb hG inX5 hown hK hP 0 rfl rfl 2 (by decide) (hG _ kw251) (fun _ h9 => h9) rfl dX5_findDescriptor_4 ?_
  refine lv_icmp_ge (tgt := 26) hx hb dX5_findDescriptor_7 (by decide) (fun h1 => ?_) (fun h1 => ?_)
  · refine lv_iload_n hx hb dX5_findDescriptor_26 rfl (lv_at hl 0 rfl) ?_
    refine lv_aload_n hx hb dX5_findDescriptor_27 rfl (lv_at hl 1 rfl) ?_
    refine va_get (D := D) (ci := 5) (v := .int (x.2.2.1.1)) hx hb hG inX5 hown hK hP 0 rfl rfl 2 (by decide) (hG _ kw251) (fun _ h9 => h9) rfl dX5_findDescriptor_28 ?_
    refine lv_icmp_ge (tgt := 38) hx hb dX5_findDescriptor_31 (by decide) (fun _ => ?_) (fun h9 => absurd h1 h9)
    refine lv_iconst (v := (-1)) hx hb dX5_findDescriptor_38 (by decide) ?_
    exact reti (u := ()) hx hb hr hlocks hK hP hD hS dX5_findDescriptor_39 (by unfold fnX5_findDescriptor; (try dsimp only); rw [if_pos h1]; (try exact rfl))
  · refine lv_aload_n hx hb dX5_findDescriptor_10 rfl (lv_at hl 1 rfl) ?_
    refine va_get (D := D) (ci := 5) (v := .ref (ad 2)) hx hb hG inX5 hown hK hP 0 rfl rfl 4 (by decide) (hG _ kw252) (fun _ h9 => h9) rfl dX5_findDescriptor_11 ?_
    refine lv_iload_n hx hb dX5_findDescriptor_14 rfl (lv_at hl 0 rfl) ?_
    refine gi (D := D) (j := 0) (f := x.2.2.1.2.1) hx hb hK hP 2 0 rfl rfl (inL (by decide)) (by decide) dX5_findDescriptor_15 ?_
    refine lv_iload_n hx hb dX5_findDescriptor_16 rfl (lv_at hl 2 rfl) ?_
    refine lv_icmp_eq (tgt := 26) hx hb dX5_findDescriptor_17 (by decide) (fun h2 => ?_) (fun h2 => ?_)
    · refine lv_iload_n hx hb dX5_findDescriptor_26 rfl (lv_at hl 0 rfl) ?_
      refine lv_aload_n hx hb dX5_findDescriptor_27 rfl (lv_at hl 1 rfl) ?_
      refine va_get (D := D) (ci := 5) (v := .int (x.2.2.1.1)) hx hb hG inX5 hown hK hP 0 rfl rfl 2 (by decide) (hG _ kw251) (fun _ h9 => h9) rfl dX5_findDescriptor_28 ?_
      refine lv_icmp_ge (tgt := 38) hx hb dX5_findDescriptor_31 (by decide) (fun h9 => absurd h9 h1) (fun _ => ?_)
      refine lv_iload_n hx hb dX5_findDescriptor_34 rfl (lv_at hl 0 rfl) ?_
      refine lv_goto (tgt := 39) hx hb dX5_findDescriptor_35 (by decide) ?_
      exact reti (u := ()) hx hb hr hlocks hK hP hD hS dX5_findDescriptor_39 (by unfold fnX5_findDescriptor; (try dsimp only); rw [if_neg h1]; rw [if_pos h2]; (try exact rfl))
    · refine lv_iinc (k := 0) (v := (1 : Int32)) (lv' := [(2, .int ((1 : Int32))), (0, .ref (ad 0)), (1, .int (a0))]) hx hb dX5_findDescriptor_20 hl rfl (by decide) (by decide) rfl (fun ls hl => ?_)
      refine lv_goto (tgt := 2) hx hb dX5_findDescriptor_23 (by decide) ?_
      refine lv_iload_n hx hb dX5_findDescriptor_2 rfl (lv_at hl 0 rfl) ?_
      refine lv_aload_n hx hb dX5_findDescriptor_3 rfl (lv_at hl 1 rfl) ?_
      refine va_get (D := D) (ci := 5) (v := .int (x.2.2.1.1)) hx hb hG inX5 hown hK hP 0 rfl rfl 2 (by decide) (hG _ kw251) (fun _ h9 => h9) rfl dX5_findDescriptor_4 ?_
      refine lv_icmp_ge (tgt := 26) hx hb dX5_findDescriptor_7 (by decide) (fun h3 => ?_) (fun h3 => ?_)
      · refine lv_iload_n hx hb dX5_findDescriptor_26 rfl (lv_at hl 0 rfl) ?_
        refine lv_aload_n hx hb dX5_findDescriptor_27 rfl (lv_at hl 1 rfl) ?_
        refine va_get (D := D) (ci := 5) (v := .int (x.2.2.1.1)) hx hb hG inX5 hown hK hP 0 rfl rfl 2 (by decide) (hG _ kw251) (fun _ h9 => h9) rfl dX5_findDescriptor_28 ?_
        refine lv_icmp_ge (tgt := 38) hx hb dX5_findDescriptor_31 (by decide) (fun _ => ?_) (fun h9 => absurd h3 h9)
        refine lv_iconst (v := (-1)) hx hb dX5_findDescriptor_38 (by decide) ?_
        exact reti (u := ()) hx hb hr hlocks hK hP hD hS dX5_findDescriptor_39 (by unfold fnX5_findDescriptor; (try dsimp only); rw [if_neg h1]; rw [if_neg h2]; rw [if_pos h3]; (try exact rfl))
      · refine lv_aload_n hx hb dX5_findDescriptor_10 rfl (lv_at hl 1 rfl) ?_
        refine va_get (D := D) (ci := 5) (v := .ref (ad 2)) hx hb hG inX5 hown hK hP 0 rfl rfl 4 (by decide) (hG _ kw252) (fun _ h9 => h9) rfl dX5_findDescriptor_11 ?_
        refine lv_iload_n hx hb dX5_findDescriptor_14 rfl (lv_at hl 0 rfl) ?_
        refine gi (D := D) (j := 1) (f := x.2.2.1.2.1) hx hb hK hP 2 0 rfl rfl (inL (by decide)) (by decide) dX5_findDescriptor_15 ?_
        refine lv_iload_n hx hb dX5_findDescriptor_16 rfl (lv_at hl 2 rfl) ?_
        refine lv_icmp_eq (tgt := 26) hx hb dX5_findDescriptor_17 (by decide) (fun h4 => ?_) (fun h4 => ?_)
        · refine lv_iload_n hx hb dX5_findDescriptor_26 rfl (lv_at hl 0 rfl) ?_
          refine lv_aload_n hx hb dX5_findDescriptor_27 rfl (lv_at hl 1 rfl) ?_
          refine va_get (D := D) (ci := 5) (v := .int (x.2.2.1.1)) hx hb hG inX5 hown hK hP 0 rfl rfl 2 (by decide) (hG _ kw251) (fun _ h9 => h9) rfl dX5_findDescriptor_28 ?_
          refine lv_icmp_ge (tgt := 38) hx hb dX5_findDescriptor_31 (by decide) (fun h9 => absurd h9 h3) (fun _ => ?_)
          refine lv_iload_n hx hb dX5_findDescriptor_34 rfl (lv_at hl 0 rfl) ?_
          refine lv_goto (tgt := 39) hx hb dX5_findDescriptor_35 (by decide) ?_
          exact reti (u := ()) hx hb hr hlocks hK hP hD hS dX5_findDescriptor_39 (by unfold fnX5_findDescriptor; (try dsimp only); rw [if_neg h1]; rw [if_neg h2]; rw [if_neg h3]; rw [if_pos h4]; (try exact rfl))
        · refine lv_iinc (k := 0) (v := (2 : Int32)) (lv' := [(2, .int ((2 : Int32))), (0, .ref (ad 0)), (1, .int (a0))]) hx hb dX5_findDescriptor_20 hl rfl (by decide) (by decide) rfl (fun ls hl => ?_)
          refine lv_goto (tgt := 2) hx hb dX5_findDescriptor_23 (by decide) ?_
          refine lv_iload_n hx hb dX5_findDescriptor_2 rfl (lv_at hl 0 rfl) ?_
          refine lv_aload_n hx hb dX5_findDescriptor_3 rfl (lv_at hl 1 rfl) ?_
          refine va_get (D := D) (ci := 5) (v := .int (x.2.2.1.1)) hx hb hG inX5 hown hK hP 0 rfl rfl 2 (by decide) (hG _ kw251) (fun _ h9 => h9) rfl dX5_findDescriptor_4 ?_
          refine lv_icmp_ge (tgt := 26) hx hb dX5_findDescriptor_7 (by decide) (fun h5 => ?_) (fun h5 => ?_)
          · refine lv_iload_n hx hb dX5_findDescriptor_26 rfl (lv_at hl 0 rfl) ?_
            refine lv_aload_n hx hb dX5_findDescriptor_27 rfl (lv_at hl 1 rfl) ?_
            refine va_get (D := D) (ci := 5) (v := .int (x.2.2.1.1)) hx hb hG inX5 hown hK hP 0 rfl rfl 2 (by decide) (hG _ kw251) (fun _ h9 => h9) rfl dX5_findDescriptor_28 ?_
            refine lv_icmp_ge (tgt := 38) hx hb dX5_findDescriptor_31 (by decide) (fun _ => ?_) (fun h9 => absurd h5 h9)
            refine lv_iconst (v := (-1)) hx hb dX5_findDescriptor_38 (by decide) ?_
            exact reti (u := ()) hx hb hr hlocks hK hP hD hS dX5_findDescriptor_39 (by unfold fnX5_findDescriptor; (try dsimp only); rw [if_neg h1]; rw [if_neg h2]; rw [if_neg h3]; rw [if_neg h4]; rw [if_pos h5]; (try exact rfl))
          · refine lv_aload_n hx hb dX5_findDescriptor_10 rfl (lv_at hl 1 rfl) ?_
            refine va_get (D := D) (ci := 5) (v := .ref (ad 2)) hx hb hG inX5 hown hK hP 0 rfl rfl 4 (by decide) (hG _ kw252) (fun _ h9 => h9) rfl dX5_findDescriptor_11 ?_
            refine lv_iload_n hx hb dX5_findDescriptor_14 rfl (lv_at hl 0 rfl) ?_
            refine gi (D := D) (j := 2) (f := x.2.2.1.2.1) hx hb hK hP 2 0 rfl rfl (inL (by decide)) (by decide) dX5_findDescriptor_15 ?_
            refine lv_iload_n hx hb dX5_findDescriptor_16 rfl (lv_at hl 2 rfl) ?_
            refine lv_icmp_eq (tgt := 26) hx hb dX5_findDescriptor_17 (by decide) (fun h6 => ?_) (fun h6 => ?_)
            · refine lv_iload_n hx hb dX5_findDescriptor_26 rfl (lv_at hl 0 rfl) ?_
              refine lv_aload_n hx hb dX5_findDescriptor_27 rfl (lv_at hl 1 rfl) ?_
              refine va_get (D := D) (ci := 5) (v := .int (x.2.2.1.1)) hx hb hG inX5 hown hK hP 0 rfl rfl 2 (by decide) (hG _ kw251) (fun _ h9 => h9) rfl dX5_findDescriptor_28 ?_
              refine lv_icmp_ge (tgt := 38) hx hb dX5_findDescriptor_31 (by decide) (fun h9 => absurd h9 h5) (fun _ => ?_)
              refine lv_iload_n hx hb dX5_findDescriptor_34 rfl (lv_at hl 0 rfl) ?_
              refine lv_goto (tgt := 39) hx hb dX5_findDescriptor_35 (by decide) ?_
              exact reti (u := ()) hx hb hr hlocks hK hP hD hS dX5_findDescriptor_39 (by unfold fnX5_findDescriptor; (try dsimp only); rw [if_neg h1]; rw [if_neg h2]; rw [if_neg h3]; rw [if_neg h4]; rw [if_neg h5]; rw [if_pos h6]; (try exact rfl))
            · refine lv_iinc (k := 0) (v := (3 : Int32)) (lv' := [(2, .int ((3 : Int32))), (0, .ref (ad 0)), (1, .int (a0))]) hx hb dX5_findDescriptor_20 hl rfl (by decide) (by decide) rfl (fun ls hl => ?_)
              refine lv_goto (tgt := 2) hx hb dX5_findDescriptor_23 (by decide) ?_
              refine lv_iload_n hx hb dX5_findDescriptor_2 rfl (lv_at hl 0 rfl) ?_
              refine lv_aload_n hx hb dX5_findDescriptor_3 rfl (lv_at hl 1 rfl) ?_
              refine va_get (D := D) (ci := 5) (v := .int (x.2.2.1.1)) hx hb hG inX5 hown hK hP 0 rfl rfl 2 (by decide) (hG _ kw251) (fun _ h9 => h9) rfl dX5_findDescriptor_4 ?_
              refine lv_icmp_ge (tgt := 26) hx hb dX5_findDescriptor_7 (by decide) (fun h7 => ?_) (fun h7 => ?_)
              · refine lv_iload_n hx hb dX5_findDescriptor_26 rfl (lv_at hl 0 rfl) ?_
                refine lv_aload_n hx hb dX5_findDescriptor_27 rfl (lv_at hl 1 rfl) ?_
                refine va_get (D := D) (ci := 5) (v := .int (x.2.2.1.1)) hx hb hG inX5 hown hK hP 0 rfl rfl 2 (by decide) (hG _ kw251) (fun _ h9 => h9) rfl dX5_findDescriptor_28 ?_
                refine lv_icmp_ge (tgt := 38) hx hb dX5_findDescriptor_31 (by decide) (fun _ => ?_) (fun h9 => absurd h7 h9)
                refine lv_iconst (v := (-1)) hx hb dX5_findDescriptor_38 (by decide) ?_
                exact reti (u := ()) hx hb hr hlocks hK hP hD hS dX5_findDescriptor_39 (by unfold fnX5_findDescriptor; (try dsimp only); rw [if_neg h1]; rw [if_neg h2]; rw [if_neg h3]; rw [if_neg h4]; rw [if_neg h5]; rw [if_neg h6]; rw [if_pos h7]; (try exact rfl))
              · refine lv_aload_n hx hb dX5_findDescriptor_10 rfl (lv_at hl 1 rfl) ?_
                refine va_get (D := D) (ci := 5) (v := .ref (ad 2)) hx hb hG inX5 hown hK hP 0 rfl rfl 4 (by decide) (hG _ kw252) (fun _ h9 => h9) rfl dX5_findDescriptor_11 ?_
                refine lv_iload_n hx hb dX5_findDescriptor_14 rfl (lv_at hl 0 rfl) ?_
                refine gi (D := D) (j := 3) (f := x.2.2.1.2.1) hx hb hK hP 2 0 rfl rfl (inL (by decide)) (by decide) dX5_findDescriptor_15 ?_
                refine lv_iload_n hx hb dX5_findDescriptor_16 rfl (lv_at hl 2 rfl) ?_
                refine lv_icmp_eq (tgt := 26) hx hb dX5_findDescriptor_17 (by decide) (fun h8 => ?_) (fun h8 => ?_)
                · refine lv_iload_n hx hb dX5_findDescriptor_26 rfl (lv_at hl 0 rfl) ?_
                  refine lv_aload_n hx hb dX5_findDescriptor_27 rfl (lv_at hl 1 rfl) ?_
                  refine va_get (D := D) (ci := 5) (v := .int (x.2.2.1.1)) hx hb hG inX5 hown hK hP 0 rfl rfl 2 (by decide) (hG _ kw251) (fun _ h9 => h9) rfl dX5_findDescriptor_28 ?_
                  refine lv_icmp_ge (tgt := 38) hx hb dX5_findDescriptor_31 (by decide) (fun h9 => absurd h9 h7) (fun _ => ?_)
                  refine lv_iload_n hx hb dX5_findDescriptor_34 rfl (lv_at hl 0 rfl) ?_
                  refine lv_goto (tgt := 39) hx hb dX5_findDescriptor_35 (by decide) ?_
                  exact reti (u := ()) hx hb hr hlocks hK hP hD hS dX5_findDescriptor_39 (by unfold fnX5_findDescriptor; (try dsimp only); rw [if_neg h1]; rw [if_neg h2]; rw [if_neg h3]; rw [if_neg h4]; rw [if_neg h5]; rw [if_neg h6]; rw [if_neg h7]; rw [if_pos h8]; (try exact rfl))
                · refine lv_iinc (k := 0) (v := (4 : Int32)) (lv' := [(2, .int ((4 : Int32))), (0, .ref (ad 0)), (1, .int (a0))]) hx hb dX5_findDescriptor_20 hl rfl (by decide) (by decide) rfl (fun ls hl => ?_)
                  refine lv_goto (tgt := 2) hx hb dX5_findDescriptor_23 (by decide) ?_
                  refine lv_iload_n hx hb dX5_findDescriptor_2 rfl (lv_at hl 0 rfl) ?_
                  refine lv_aload_n hx hb dX5_findDescriptor_3 rfl (lv_at hl 1 rfl) ?_
                  refine va_get (D := D) (ci := 5) (v := .int (x.2.2.1.1)) hx hb hG inX5 hown hK hP 0 rfl rfl 2 (by decide) (hG _ kw251) (fun _ h9 => h9) rfl dX5_findDescriptor_4 ?_
                  refine lv_icmp_ge (tgt := 26) hx hb dX5_findDescriptor_7 (by decide) (fun _ => ?_) (fun h9 => absurd (le4 hI.1) h9)
                  refine lv_iload_n hx hb dX5_findDescriptor_26 rfl (lv_at hl 0 rfl) ?_
                  refine lv_aload_n hx hb dX5_findDescriptor_27 rfl (lv_at hl 1 rfl) ?_
                  refine va_get (D := D) (ci := 5) (v := .int (x.2.2.1.1)) hx hb hG inX5 hown hK hP 0 rfl rfl 2 (by decide) (hG _ kw251) (fun _ h9 => h9) rfl dX5_findDescriptor_28 ?_
                  refine lv_icmp_ge (tgt := 38) hx hb dX5_findDescriptor_31 (by decide) (fun _ => ?_) (fun h9 => absurd (le4 hI.1) h9)
                  refine lv_iconst (v := (-1)) hx hb dX5_findDescriptor_38 (by decide) ?_
                  exact reti (u := ()) hx hb hr hlocks hK hP hD hS dX5_findDescriptor_39 (by unfold fnX5_findDescriptor; (try dsimp only); rw [if_neg h1]; rw [if_neg h2]; rw [if_neg h3]; rw [if_neg h4]; rw [if_neg h5]; rw [if_neg h6]; rw [if_neg h7]; rw [if_neg h8]; (try exact rfl))
def fnX5_findPage (x : TM) (a0 : Int32) (a1 : Int32) : Int32 :=
  if x.2.2.2.1.1 ≤ (0 : Int32) then
   (-1 : Int32)
  else
   if (x.2.2.2.1.2.1 0) = (((64 : Int32) * a0) + a1) then
    (0 : Int32)
   else
    if x.2.2.2.1.1 ≤ (1 : Int32) then
     (-1 : Int32)
    else
     if (x.2.2.2.1.2.1 1) = (((64 : Int32) * a0) + a1) then
      (1 : Int32)
     else
      if x.2.2.2.1.1 ≤ (2 : Int32) then
       (-1 : Int32)
      else
       if (x.2.2.2.1.2.1 2) = (((64 : Int32) * a0) + a1) then
        (2 : Int32)
       else
        if x.2.2.2.1.1 ≤ (3 : Int32) then
         (-1 : Int32)
        else
         if (x.2.2.2.1.2.1 3) = (((64 : Int32) * a0) + a1) then
          (3 : Int32)
         else
          (-1 : Int32)
abbrev ivX5_findPageP (z : Int32) : Prop := ipl z
set_option maxRecDepth 100000 in
set_option maxHeartbeats 4000000 in
theorem ivX5_findPage (x : TM) (a0 : Int32) (a1 : Int32) (hI : iM x) : ivX5_findPageP (fnX5_findPage x a0 a1) := by
  unfold fnX5_findPage
  try dsimp only
  refine iteI (fun h1 => ?_) (fun h1 => ?_)
  · exact (Or.inl rfl)
  · refine iteI (fun h2 => ?_) (fun h2 => ?_)
    · exact (Or.inr (by decide))
    · refine iteI (fun h3 => ?_) (fun h3 => ?_)
      · exact (Or.inl rfl)
      · refine iteI (fun h4 => ?_) (fun h4 => ?_)
        · exact (Or.inr (by decide))
        · refine iteI (fun h5 => ?_) (fun h5 => ?_)
          · exact (Or.inl rfl)
          · refine iteI (fun h6 => ?_) (fun h6 => ?_)
            · exact (Or.inr (by decide))
            · refine iteI (fun h7 => ?_) (fun h7 => ?_)
              · exact (Or.inl rfl)
              · refine iteI (fun h8 => ?_) (fun h8 => ?_)
                · exact (Or.inr (by decide))
                · exact (Or.inl rfl)
set_option maxRecDepth 100000 in
set_option maxHeartbeats 4000000 in
theorem okX5_findPage (l : Launch) (D : va_G) (cI cJ cP : ClassId) (ad : Nat → Nat) (sz : Nat) (x : TM) (a0 : Int32) (a1 : Int32) (hI : iM x) : Met l yX5_findPage (Cond.code yX5_findPage cX5_findPage 4 (some .int) :: gG) { frames := 0, cells := 0, slots := 0, locals := 0 } (va_Pc [.ref (ad 0), .int a0, .int a1] (PRE D (tz cI cJ cP) sz (wM cI cJ ad x))) (va_Qi (fun (r : Int32) (_ : Unit) => r = fnX5_findPage x a0 a1) (AT D (tz cI cJ cP) (va_A (wM cI cJ ad x) sz) (fun (_ : Unit) => (wM cI cJ ad x))) (va_A (wM cI cJ ad x) sz)) 0 0 (va_A (wM cI cJ ad x) sz) := by
  refine mo (QA := fun A => va_Qi (fun (r : Int32) (_ : Unit) => r = fnX5_findPage x a0 a1) (AT D (tz cI cJ cP) A (fun (_ : Unit) => (wM cI cJ ad x))) A) (by decide) (Nat.le_of_ble_eq_true rfl) ?_
  intro p e s m below meth c A ls H hx hb hr hml hown hG hlocks hnm hA hS hP hK hD hl hN
  have hown : s.vm.findClass RX5 = some m.cls := hown
  have hl : lv_has ls 4 [(0, .ref (ad 0)), (1, .int a0), (2, .int a1)] := hl
  refine lv_iconst (v := 0) hx hb dX5_findPage_0 (by decide) ?_
  refine lv_istore_n (lv' := [(3, .int ((0 : Int32))), (0, .ref (ad 0)), (1, .int (a0)), (2, .int (a1))]) hx hb dX5_findPage_1 rfl hl (by decide) rfl (fun ls hl => ?_)
  refine lv_iload_n hx hb dX5_findPage_2 rfl (lv_at hl 0 rfl) ?_
  refine lv_aload_n hx hb dX5_findPage_3 rfl (lv_at hl 1 rfl) ?_
  refine va_get (D := D) (ci := 5) (v := .int (x.2.2.2.1.1)) hx hb hG inX5 hown hK hP 0 rfl rfl 3 (by decide) (hG _ kw253) (fun _ h9 => h9) rfl dX5_findPage_4 ?_
  refine lv_icmp_ge (tgt := 31) hx hb dX5_findPage_7 (by decide) (fun h1 => ?_) (fun h1 => ?_)
  · refine lv_iload_n hx hb dX5_findPage_31 rfl (lv_at hl 0 rfl) ?_
    refine lv_aload_n hx hb dX5_findPage_32 rfl (lv_at hl 1 rfl) ?_
    refine va_get (D := D) (ci := 5) (v := .int (x.2.2.2.1.1)) hx hb hG inX5 hown hK hP 0 rfl rfl 3 (by decide) (hG _ kw253) (fun _ h9 => h9) rfl dX5_findPage_33 ?_
    refine lv_icmp_ge (tgt := 43) hx hb dX5_findPage_36 (by decide) (fun _ => ?_) (fun h9 => absurd h1 h9)
    refine lv_iconst (v := (-1)) hx hb dX5_findPage_43 (by decide) ?_
    exact reti (u := ()) hx hb hr hlocks hK hP hD hS dX5_findPage_44 (by unfold fnX5_findPage; (try dsimp only); rw [if_pos h1]; (try exact rfl))
  · refine lv_aload_n hx hb dX5_findPage_10 rfl (lv_at hl 1 rfl) ?_
    refine va_get (D := D) (ci := 5) (v := .ref (ad 3)) hx hb hG inX5 hown hK hP 0 rfl rfl 5 (by decide) (hG _ kw254) (fun _ h9 => h9) rfl dX5_findPage_11 ?_
    refine lv_iload_n hx hb dX5_findPage_14 rfl (lv_at hl 0 rfl) ?_
    refine gi (D := D) (j := 0) (f := x.2.2.2.1.2.1) hx hb hK hP 3 0 rfl rfl (inL (by decide)) (by decide) dX5_findPage_15 ?_
    refine lv_bipush (v := 64) hx hb dX5_findPage_16 (by decide) ?_
    refine lv_iload_n hx hb dX5_findPage_18 rfl (lv_at hl 2 rfl) ?_
    refine lv_imul hx hb dX5_findPage_19 ?_
    refine lv_iload_n hx hb dX5_findPage_20 rfl (lv_at hl 3 rfl) ?_
    refine lv_iadd hx hb dX5_findPage_21 ?_
    refine lv_icmp_eq (tgt := 31) hx hb dX5_findPage_22 (by decide) (fun h2 => ?_) (fun h2 => ?_)
    · refine lv_iload_n hx hb dX5_findPage_31 rfl (lv_at hl 0 rfl) ?_
      refine lv_aload_n hx hb dX5_findPage_32 rfl (lv_at hl 1 rfl) ?_
      refine va_get (D := D) (ci := 5) (v := .int (x.2.2.2.1.1)) hx hb hG inX5 hown hK hP 0 rfl rfl 3 (by decide) (hG _ kw253) (fun _ h9 => h9) rfl dX5_findPage_33 ?_
      refine lv_icmp_ge (tgt := 43) hx hb dX5_findPage_36 (by decide) (fun h9 => absurd h9 h1) (fun _ => ?_)
      refine lv_iload_n hx hb dX5_findPage_39 rfl (lv_at hl 0 rfl) ?_
      refine lv_goto (tgt := 44) hx hb dX5_findPage_40 (by decide) ?_
      exact reti (u := ()) hx hb hr hlocks hK hP hD hS dX5_findPage_44 (by unfold fnX5_findPage; (try dsimp only); rw [if_neg h1]; rw [if_pos h2]; (try exact rfl))
    · refine lv_iinc (k := 0) (v := (1 : Int32)) (lv' := [(3, .int ((1 : Int32))), (0, .ref (ad 0)), (1, .int (a0)), (2, .int (a1))]) hx hb dX5_findPage_25 hl rfl (by decide) (by decide) rfl (fun ls hl => ?_)
      refine lv_goto (tgt := 2) hx hb dX5_findPage_28 (by decide) ?_
      refine lv_iload_n hx hb dX5_findPage_2 rfl (lv_at hl 0 rfl) ?_
      refine lv_aload_n hx hb dX5_findPage_3 rfl (lv_at hl 1 rfl) ?_
      refine va_get (D := D) (ci := 5) (v := .int (x.2.2.2.1.1)) hx hb hG inX5 hown hK hP 0 rfl rfl 3 (by decide) (hG _ kw253) (fun _ h9 => h9) rfl dX5_findPage_4 ?_
      refine lv_icmp_ge (tgt := 31) hx hb dX5_findPage_7 (by decide) (fun h3 => ?_) (fun h3 => ?_)
      · refine lv_iload_n hx hb dX5_findPage_31 rfl (lv_at hl 0 rfl) ?_
        refine lv_aload_n hx hb dX5_findPage_32 rfl (lv_at hl 1 rfl) ?_
        refine va_get (D := D) (ci := 5) (v := .int (x.2.2.2.1.1)) hx hb hG inX5 hown hK hP 0 rfl rfl 3 (by decide) (hG _ kw253) (fun _ h9 => h9) rfl dX5_findPage_33 ?_
        refine lv_icmp_ge (tgt := 43) hx hb dX5_findPage_36 (by decide) (fun _ => ?_) (fun h9 => absurd h3 h9)
        refine lv_iconst (v := (-1)) hx hb dX5_findPage_43 (by decide) ?_
        exact reti (u := ()) hx hb hr hlocks hK hP hD hS dX5_findPage_44 (by unfold fnX5_findPage; (try dsimp only); rw [if_neg h1]; rw [if_neg h2]; rw [if_pos h3]; (try exact rfl))
      · refine lv_aload_n hx hb dX5_findPage_10 rfl (lv_at hl 1 rfl) ?_
        refine va_get (D := D) (ci := 5) (v := .ref (ad 3)) hx hb hG inX5 hown hK hP 0 rfl rfl 5 (by decide) (hG _ kw254) (fun _ h9 => h9) rfl dX5_findPage_11 ?_
        refine lv_iload_n hx hb dX5_findPage_14 rfl (lv_at hl 0 rfl) ?_
        refine gi (D := D) (j := 1) (f := x.2.2.2.1.2.1) hx hb hK hP 3 0 rfl rfl (inL (by decide)) (by decide) dX5_findPage_15 ?_
        refine lv_bipush (v := 64) hx hb dX5_findPage_16 (by decide) ?_
        refine lv_iload_n hx hb dX5_findPage_18 rfl (lv_at hl 2 rfl) ?_
        refine lv_imul hx hb dX5_findPage_19 ?_
        refine lv_iload_n hx hb dX5_findPage_20 rfl (lv_at hl 3 rfl) ?_
        refine lv_iadd hx hb dX5_findPage_21 ?_
        refine lv_icmp_eq (tgt := 31) hx hb dX5_findPage_22 (by decide) (fun h4 => ?_) (fun h4 => ?_)
        · refine lv_iload_n hx hb dX5_findPage_31 rfl (lv_at hl 0 rfl) ?_
          refine lv_aload_n hx hb dX5_findPage_32 rfl (lv_at hl 1 rfl) ?_
          refine va_get (D := D) (ci := 5) (v := .int (x.2.2.2.1.1)) hx hb hG inX5 hown hK hP 0 rfl rfl 3 (by decide) (hG _ kw253) (fun _ h9 => h9) rfl dX5_findPage_33 ?_
          refine lv_icmp_ge (tgt := 43) hx hb dX5_findPage_36 (by decide) (fun h9 => absurd h9 h3) (fun _ => ?_)
          refine lv_iload_n hx hb dX5_findPage_39 rfl (lv_at hl 0 rfl) ?_
          refine lv_goto (tgt := 44) hx hb dX5_findPage_40 (by decide) ?_
          exact reti (u := ()) hx hb hr hlocks hK hP hD hS dX5_findPage_44 (by unfold fnX5_findPage; (try dsimp only); rw [if_neg h1]; rw [if_neg h2]; rw [if_neg h3]; rw [if_pos h4]; (try exact rfl))
        · refine lv_iinc (k := 0) (v := (2 : Int32)) (lv' := [(3, .int ((2 : Int32))), (0, .ref (ad 0)), (1, .int (a0)), (2, .int (a1))]) hx hb dX5_findPage_25 hl rfl (by decide) (by decide) rfl (fun ls hl => ?_)
          refine lv_goto (tgt := 2) hx hb dX5_findPage_28 (by decide) ?_
          refine lv_iload_n hx hb dX5_findPage_2 rfl (lv_at hl 0 rfl) ?_
          refine lv_aload_n hx hb dX5_findPage_3 rfl (lv_at hl 1 rfl) ?_
          refine va_get (D := D) (ci := 5) (v := .int (x.2.2.2.1.1)) hx hb hG inX5 hown hK hP 0 rfl rfl 3 (by decide) (hG _ kw253) (fun _ h9 => h9) rfl dX5_findPage_4 ?_
          refine lv_icmp_ge (tgt := 31) hx hb dX5_findPage_7 (by decide) (fun h5 => ?_) (fun h5 => ?_)
          · refine lv_iload_n hx hb dX5_findPage_31 rfl (lv_at hl 0 rfl) ?_
            refine lv_aload_n hx hb dX5_findPage_32 rfl (lv_at hl 1 rfl) ?_
            refine va_get (D := D) (ci := 5) (v := .int (x.2.2.2.1.1)) hx hb hG inX5 hown hK hP 0 rfl rfl 3 (by decide) (hG _ kw253) (fun _ h9 => h9) rfl dX5_findPage_33 ?_
            refine lv_icmp_ge (tgt := 43) hx hb dX5_findPage_36 (by decide) (fun _ => ?_) (fun h9 => absurd h5 h9)
            refine lv_iconst (v := (-1)) hx hb dX5_findPage_43 (by decide) ?_
            exact reti (u := ()) hx hb hr hlocks hK hP hD hS dX5_findPage_44 (by unfold fnX5_findPage; (try dsimp only); rw [if_neg h1]; rw [if_neg h2]; rw [if_neg h3]; rw [if_neg h4]; rw [if_pos h5]; (try exact rfl))
          · refine lv_aload_n hx hb dX5_findPage_10 rfl (lv_at hl 1 rfl) ?_
            refine va_get (D := D) (ci := 5) (v := .ref (ad 3)) hx hb hG inX5 hown hK hP 0 rfl rfl 5 (by decide) (hG _ kw254) (fun _ h9 => h9) rfl dX5_findPage_11 ?_
            refine lv_iload_n hx hb dX5_findPage_14 rfl (lv_at hl 0 rfl) ?_
            refine gi (D := D) (j := 2) (f := x.2.2.2.1.2.1) hx hb hK hP 3 0 rfl rfl (inL (by decide)) (by decide) dX5_findPage_15 ?_
            refine lv_bipush (v := 64) hx hb dX5_findPage_16 (by decide) ?_
            refine lv_iload_n hx hb dX5_findPage_18 rfl (lv_at hl 2 rfl) ?_
            refine lv_imul hx hb dX5_findPage_19 ?_
            refine lv_iload_n hx hb dX5_findPage_20 rfl (lv_at hl 3 rfl) ?_
            refine lv_iadd hx hb dX5_findPage_21 ?_
            refine lv_icmp_eq (tgt := 31) hx hb dX5_findPage_22 (by decide) (fun h6 => ?_) (fun h6 => ?_)
            · refine lv_iload_n hx hb dX5_findPage_31 rfl (lv_at hl 0 rfl) ?_
              refine lv_aload_n hx hb dX5_findPage_32 rfl (lv_at hl 1 rfl) ?_
              refine va_get (D := D) (ci := 5) (v := .int (x.2.2.2.1.1)) hx hb hG inX5 hown hK hP 0 rfl rfl 3 (by decide) (hG _ kw253) (fun _ h9 => h9) rfl dX5_findPage_33 ?_
              refine lv_icmp_ge (tgt := 43) hx hb dX5_findPage_36 (by decide) (fun h9 => absurd h9 h5) (fun _ => ?_)
              refine lv_iload_n hx hb dX5_findPage_39 rfl (lv_at hl 0 rfl) ?_
              refine lv_goto (tgt := 44) hx hb dX5_findPage_40 (by decide) ?_
              exact reti (u := ()) hx hb hr hlocks hK hP hD hS dX5_findPage_44 (by unfold fnX5_findPage; (try dsimp only); rw [if_neg h1]; rw [if_neg h2]; rw [if_neg h3]; rw [if_neg h4]; rw [if_neg h5]; rw [if_pos h6]; (try exact rfl))
            · refine lv_iinc (k := 0) (v := (3 : Int32)) (lv' := [(3, .int ((3 : Int32))), (0, .ref (ad 0)), (1, .int (a0)), (2, .int (a1))]) hx hb dX5_findPage_25 hl rfl (by decide) (by decide) rfl (fun ls hl => ?_)
              refine lv_goto (tgt := 2) hx hb dX5_findPage_28 (by decide) ?_
              refine lv_iload_n hx hb dX5_findPage_2 rfl (lv_at hl 0 rfl) ?_
              refine lv_aload_n hx hb dX5_findPage_3 rfl (lv_at hl 1 rfl) ?_
              refine va_get (D := D) (ci := 5) (v := .int (x.2.2.2.1.1)) hx hb hG inX5 hown hK hP 0 rfl rfl 3 (by decide) (hG _ kw253) (fun _ h9 => h9) rfl dX5_findPage_4 ?_
              refine lv_icmp_ge (tgt := 31) hx hb dX5_findPage_7 (by decide) (fun h7 => ?_) (fun h7 => ?_)
              · refine lv_iload_n hx hb dX5_findPage_31 rfl (lv_at hl 0 rfl) ?_
                refine lv_aload_n hx hb dX5_findPage_32 rfl (lv_at hl 1 rfl) ?_
                refine va_get (D := D) (ci := 5) (v := .int (x.2.2.2.1.1)) hx hb hG inX5 hown hK hP 0 rfl rfl 3 (by decide) (hG _ kw253) (fun _ h9 => h9) rfl dX5_findPage_33 ?_
                refine lv_icmp_ge (tgt := 43) hx hb dX5_findPage_36 (by decide) (fun _ => ?_) (fun h9 => absurd h7 h9)
                refine lv_iconst (v := (-1)) hx hb dX5_findPage_43 (by decide) ?_
                exact reti (u := ()) hx hb hr hlocks hK hP hD hS dX5_findPage_44 (by unfold fnX5_findPage; (try dsimp only); rw [if_neg h1]; rw [if_neg h2]; rw [if_neg h3]; rw [if_neg h4]; rw [if_neg h5]; rw [if_neg h6]; rw [if_pos h7]; (try exact rfl))
              · refine lv_aload_n hx hb dX5_findPage_10 rfl (lv_at hl 1 rfl) ?_
                refine va_get (D := D) (ci := 5) (v := .ref (ad 3)) hx hb hG inX5 hown hK hP 0 rfl rfl 5 (by decide) (hG _ kw254) (fun _ h9 => h9) rfl dX5_findPage_11 ?_
                refine lv_iload_n hx hb dX5_findPage_14 rfl (lv_at hl 0 rfl) ?_
                refine gi (D := D) (j := 3) (f := x.2.2.2.1.2.1) hx hb hK hP 3 0 rfl rfl (inL (by decide)) (by decide) dX5_findPage_15 ?_
                refine lv_bipush (v := 64) hx hb dX5_findPage_16 (by decide) ?_
                refine lv_iload_n hx hb dX5_findPage_18 rfl (lv_at hl 2 rfl) ?_
                refine lv_imul hx hb dX5_findPage_19 ?_
                refine lv_iload_n hx hb dX5_findPage_20 rfl (lv_at hl 3 rfl) ?_
                refine lv_iadd hx hb dX5_findPage_21 ?_
                refine lv_icmp_eq (tgt := 31) hx hb dX5_findPage_22 (by decide) (fun h8 => ?_) (fun h8 => ?_)
                · refine lv_iload_n hx hb dX5_findPage_31 rfl (lv_at hl 0 rfl) ?_
                  refine lv_aload_n hx hb dX5_findPage_32 rfl (lv_at hl 1 rfl) ?_
                  refine va_get (D := D) (ci := 5) (v := .int (x.2.2.2.1.1)) hx hb hG inX5 hown hK hP 0 rfl rfl 3 (by decide) (hG _ kw253) (fun _ h9 => h9) rfl dX5_findPage_33 ?_
                  refine lv_icmp_ge (tgt := 43) hx hb dX5_findPage_36 (by decide) (fun h9 => absurd h9 h7) (fun _ => ?_)
                  refine lv_iload_n hx hb dX5_findPage_39 rfl (lv_at hl 0 rfl) ?_
                  refine lv_goto (tgt := 44) hx hb dX5_findPage_40 (by decide) ?_
                  exact reti (u := ()) hx hb hr hlocks hK hP hD hS dX5_findPage_44 (by unfold fnX5_findPage; (try dsimp only); rw [if_neg h1]; rw [if_neg h2]; rw [if_neg h3]; rw [if_neg h4]; rw [if_neg h5]; rw [if_neg h6]; rw [if_neg h7]; rw [if_pos h8]; (try exact rfl))
                · refine lv_iinc (k := 0) (v := (4 : Int32)) (lv' := [(3, .int ((4 : Int32))), (0, .ref (ad 0)), (1, .int (a0)), (2, .int (a1))]) hx hb dX5_findPage_25 hl rfl (by decide) (by decide) rfl (fun ls hl => ?_)
                  refine lv_goto (tgt := 2) hx hb dX5_findPage_28 (by decide) ?_
                  refine lv_iload_n hx hb dX5_findPage_2 rfl (lv_at hl 0 rfl) ?_
                  refine lv_aload_n hx hb dX5_findPage_3 rfl (lv_at hl 1 rfl) ?_
                  refine va_get (D := D) (ci := 5) (v := .int (x.2.2.2.1.1)) hx hb hG inX5 hown hK hP 0 rfl rfl 3 (by decide) (hG _ kw253) (fun _ h9 => h9) rfl dX5_findPage_4 ?_
                  refine lv_icmp_ge (tgt := 31) hx hb dX5_findPage_7 (by decide) (fun _ => ?_) (fun h9 => absurd (le4 hI.2.1) h9)
                  refine lv_iload_n hx hb dX5_findPage_31 rfl (lv_at hl 0 rfl) ?_
                  refine lv_aload_n hx hb dX5_findPage_32 rfl (lv_at hl 1 rfl) ?_
                  refine va_get (D := D) (ci := 5) (v := .int (x.2.2.2.1.1)) hx hb hG inX5 hown hK hP 0 rfl rfl 3 (by decide) (hG _ kw253) (fun _ h9 => h9) rfl dX5_findPage_33 ?_
                  refine lv_icmp_ge (tgt := 43) hx hb dX5_findPage_36 (by decide) (fun _ => ?_) (fun h9 => absurd (le4 hI.2.1) h9)
                  refine lv_iconst (v := (-1)) hx hb dX5_findPage_43 (by decide) ?_
                  exact reti (u := ()) hx hb hr hlocks hK hP hD hS dX5_findPage_44 (by unfold fnX5_findPage; (try dsimp only); rw [if_neg h1]; rw [if_neg h2]; rw [if_neg h3]; rw [if_neg h4]; rw [if_neg h5]; rw [if_neg h6]; rw [if_neg h7]; rw [if_neg h8]; (try exact rfl))
