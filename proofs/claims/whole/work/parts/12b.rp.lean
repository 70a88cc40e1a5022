def fnX4_followWord (x : TR) (a0 : Int64) : Int32 × TR :=
  let p1 := fnX4_field a0 (33 : Int32) (3 : Int32)
  if p1 = (0 : Int32) then
   let p3 := fnX4_field a0 (0 : Int32) (12 : Int32)
   ((1 : Int32), (x.1, x.2.1, x.2.2.1, x.2.2.2.1, x.2.2.2.2.1, (x.2.2.2.2.2.1.1, p3, x.2.2.2.2.2.1.2.2), x.2.2.2.2.2.2.1, x.2.2.2.2.2.2.2))
  else
   if p1 = (1 : Int32) then
    let p5 := fnX2_takeFrom x.2.2.2.2.2.1 a0
    ((1 : Int32), (x.1, x.2.1, x.2.2.1, x.2.2.2.1, x.2.2.2.2.1, (p5.1, p5.2.1, (if x.2.2.2.2.2.1.2.2 < p5.2.2 then p5.2.2 else x.2.2.2.2.2.1.2.2)), x.2.2.2.2.2.2.1, x.2.2.2.2.2.2.2))
   else
    if p1 = (2 : Int32) then
     let p7 := fnX4_field a0 (18 : Int32) (2 : Int32)
     if p7 = (0 : Int32) then
      let p9 := fnX2_become x.2.2.2.2.2.1 x.2.2.2.1.1
      let p10 := fnX4_field a0 (0 : Int32) (12 : Int32)
      let p11 := fnX4_sum p9.2.1 p10
      ((1 : Int32), (x.1, x.2.1, x.2.2.1, x.2.2.2.1, x.2.2.2.2.1, (p9.1, p11, (if x.2.2.2.2.2.1.2.2 < p9.2.2 then p9.2.2 else x.2.2.2.2.2.1.2.2)), x.2.2.2.2.2.2.1, x.2.2.2.2.2.2.2))
     else
      if p7 = (1 : Int32) then
       let p13 := fnX2_become x.2.2.2.2.2.1 x.2.2.2.1.2.1
       let p14 := fnX4_field a0 (0 : Int32) (12 : Int32)
       let p15 := fnX4_sum p13.2.1 p14
       ((1 : Int32), (x.1, x.2.1, x.2.2.1, x.2.2.2.1, x.2.2.2.2.1, (p13.1, p15, (if x.2.2.2.2.2.1.2.2 < p13.2.2 then p13.2.2 else x.2.2.2.2.2.1.2.2)), x.2.2.2.2.2.2.1, x.2.2.2.2.2.2.2))
      else
       if p7 = (2 : Int32) then
        let p17 := fnX2_become x.2.2.2.2.2.1 x.2.2.2.1.2.2.1
        let p18 := fnX4_field a0 (0 : Int32) (12 : Int32)
        let p19 := fnX4_sum p17.2.1 p18
        ((1 : Int32), (x.1, x.2.1, x.2.2.1, x.2.2.2.1, x.2.2.2.2.1, (p17.1, p19, (if x.2.2.2.2.2.1.2.2 < p17.2.2 then p17.2.2 else x.2.2.2.2.2.1.2.2)), x.2.2.2.2.2.2.1, x.2.2.2.2.2.2.2))
       else
        let p21 := fnX2_become x.2.2.2.2.2.1 x.2.2.2.1.2.2.2
        let p22 := fnX4_field a0 (0 : Int32) (12 : Int32)
        let p23 := fnX4_sum p21.2.1 p22
        ((1 : Int32), (x.1, x.2.1, x.2.2.1, x.2.2.2.1, x.2.2.2.2.1, (p21.1, p23, (if x.2.2.2.2.2.1.2.2 < p21.2.2 then p21.2.2 else x.2.2.2.2.2.1.2.2)), x.2.2.2.2.2.2.1, x.2.2.2.2.2.2.2))
    else
     ((0 : Int32), x)
abbrev ivX4_followWordP (z : Int32 × TR) : Prop := iR z.2
set_option maxRecDepth 100000 in
set_option maxHeartbeats 4000000 in
theorem ivX4_followWord (x : TR) (a0 : Int64) (hI : iR x) : ivX4_followWordP (fnX4_followWord x a0) := by
  unfold fnX4_followWord
  try dsimp only
  have j1 : i3 (fnX4_field a0 (33 : Int32) (3 : Int32)) := (f3X a0 (33 : Int32))
  generalize fnX4_field a0 (33 : Int32) (3 : Int32) = p1 at j1 ⊢
  refine iteI (fun h2 => ?_) (fun h2 => ?_)
  · have j3 : i12 (fnX4_field a0 (0 : Int32) (12 : Int32)) := (f12X a0 (0 : Int32))
    generalize fnX4_field a0 (0 : Int32) (12 : Int32) = p3 at j3 ⊢
    exact ⟨hI.1, hI.2.1, hI.2.2.1, hI.2.2.2.1, hI.2.2.2.2.1, ⟨hI.2.2.2.2.2.1.1, j3, hI.2.2.2.2.2.1.2.2⟩, hI.2.2.2.2.2.2.1, hI.2.2.2.2.2.2.2⟩
  · refine iteI (fun h4 => ?_) (fun h4 => ?_)
    · have j5 : ivX2_takeFromP (fnX2_takeFrom x.2.2.2.2.2.1 a0) := ivX2_takeFrom x.2.2.2.2.2.1 a0 hI.2.2.2.2.2.1
      generalize fnX2_takeFrom x.2.2.2.2.2.1 a0 = p5 at j5 ⊢
      exact ⟨hI.1, hI.2.1, hI.2.2.1, hI.2.2.2.1, hI.2.2.2.2.1, ⟨j5.1, j5.2.1, (mx3 hI.2.2.2.2.2.1.2.2 j5.2.2)⟩, hI.2.2.2.2.2.2.1, hI.2.2.2.2.2.2.2⟩
    · refine iteI (fun h6 => ?_) (fun h6 => ?_)
      · have j7 : i2 (fnX4_field a0 (18 : Int32) (2 : Int32)) := (f2X a0 (18 : Int32))
        generalize fnX4_field a0 (18 : Int32) (2 : Int32) = p7 at j7 ⊢
        refine iteI (fun h8 => ?_) (fun h8 => ?_)
        · have j9 : ivX2_becomeP (fnX2_become x.2.2.2.2.2.1 x.2.2.2.1.1) := ivX2_become x.2.2.2.2.2.1 x.2.2.2.1.1 hI.2.2.2.2.2.1 hI.2.2.2.1.1
          generalize fnX2_become x.2.2.2.2.2.1 x.2.2.2.1.1 = p9 at j9 ⊢
          have j10 : i12 (fnX4_field a0 (0 : Int32) (12 : Int32)) := (f12X a0 (0 : Int32))
          generalize fnX4_field a0 (0 : Int32) (12 : Int32) = p10 at j10 ⊢
          have j11 : i12 (fnX4_sum p9.2.1 p10) := (sumX p9.2.1 p10)
          generalize fnX4_sum p9.2.1 p10 = p11 at j11 ⊢
          exact ⟨hI.1, hI.2.1, hI.2.2.1, hI.2.2.2.1, hI.2.2.2.2.1, ⟨j9.1, j11, (mx3 hI.2.2.2.2.2.1.2.2 j9.2.2)⟩, hI.2.2.2.2.2.2.1, hI.2.2.2.2.2.2.2⟩
        · refine iteI (fun h12 => ?_) (fun h12 => ?_)
          · have j13 : ivX2_becomeP (fnX2_become x.2.2.2.2.2.1 x.2.2.2.1.2.1) := ivX2_become x.2.2.2.2.2.1 x.2.2.2.1.2.1 hI.2.2.2.2.2.1 hI.2.2.2.1.2.1
            generalize fnX2_become x.2.2.2.2.2.1 x.2.2.2.1.2.1 = p13 at j13 ⊢
            have j14 : i12 (fnX4_field a0 (0 : Int32) (12 : Int32)) := (f12X a0 (0 : Int32))
            generalize fnX4_field a0 (0 : Int32) (12 : Int32) = p14 at j14 ⊢
            have j15 : i12 (fnX4_sum p13.2.1 p14) := (sumX p13.2.1 p14)
            generalize fnX4_sum p13.2.1 p14 = p15 at j15 ⊢
            exact ⟨hI.1, hI.2.1, hI.2.2.1, hI.2.2.2.1, hI.2.2.2.2.1, ⟨j13.1, j15, (mx3 hI.2.2.2.2.2.1.2.2 j13.2.2)⟩, hI.2.2.2.2.2.2.1, hI.2.2.2.2.2.2.2⟩
          · refine iteI (fun h16 => ?_) (fun h16 => ?_)
            · have j17 : ivX2_becomeP (fnX2_become x.2.2.2.2.2.1 x.2.2.2.1.2.2.1) := ivX2_become x.2.2.2.2.2.1 x.2.2.2.1.2.2.1 hI.2.2.2.2.2.1 hI.2.2.2.1.2.2.1
              generalize fnX2_become x.2.2.2.2.2.1 x.2.2.2.1.2.2.1 = p17 at j17 ⊢
              have j18 : i12 (fnX4_field a0 (0 : Int32) (12 : Int32)) := (f12X a0 (0 : Int32))
              generalize fnX4_field a0 (0 : Int32) (12 : Int32) = p18 at j18 ⊢
              have j19 : i12 (fnX4_sum p17.2.1 p18) := (sumX p17.2.1 p18)
              generalize fnX4_sum p17.2.1 p18 = p19 at j19 ⊢
              exact ⟨hI.1, hI.2.1, hI.2.2.1, hI.2.2.2.1, hI.2.2.2.2.1, ⟨j17.1, j19, (mx3 hI.2.2.2.2.2.1.2.2 j17.2.2)⟩, hI.2.2.2.2.2.2.1, hI.2.2.2.2.2.2.2⟩
            · have j21 : ivX2_becomeP (fnX2_become x.2.2.2.2.2.1 x.2.2.2.1.2.2.2) := ivX2_become x.2.2.2.2.2.1 x.2.2.2.1.2.2.2 hI.2.2.2.2.2.1 hI.2.2.2.1.2.2.2
              generalize fnX2_become x.2.2.2.2.2.1 x.2.2.2.1.2.2.2 = p21 at j21 ⊢
              have j22 : i12 (fnX4_field a0 (0 : Int32) (12 : Int32)) := (f12X a0 (0 : Int32))
              generalize fnX4_field a0 (0 : Int32) (12 : Int32) = p22 at j22 ⊢
              have j23 : i12 (fnX4_sum p21.2.1 p22) := (sumX p21.2.1 p22)
              generalize fnX4_sum p21.2.1 p22 = p23 at j23 ⊢
              exact ⟨hI.1, hI.2.1, hI.2.2.1, hI.2.2.2.1, hI.2.2.2.2.1, ⟨j21.1, j23, (mx3 hI.2.2.2.2.2.1.2.2 j21.2.2)⟩, hI.2.2.2.2.2.2.1, hI.2.2.2.2.2.2.2⟩
      · exact hI
set_option maxRecDepth 100000 in
set_option maxHeartbeats 4000000 in
theorem okX4_followWord (l : Launch) (D : va_G) (cI cJ cP : ClassId) (ad : Nat → Nat) (sz : Nat) (x : TR) (a0 : Int64) (hI : iR x) : Met l yX4_followWord (Cond.code yX4_followWord cX4_followWord 4 (some .boolean) :: gG) { frames := 2, cells := 0, slots := 0, locals := 45 } (va_Pc [.ref (ad 0), .long a0] (PRE D (tz cI cJ cP) sz (wR cI cJ cP ad x))) (va_Qi (fun (r : Int32) (u : TR) => (r, u) = fnX4_followWord x a0) (AT D (tz cI cJ cP) (va_A (wR cI cJ cP ad x) sz) (fun (u : TR) => (wR cI cJ cP ad u))) (va_A (wR cI cJ cP ad x) sz)) 0 0 (va_A (wR cI cJ cP ad x) sz) := by
  refine mo (QA := fun A => va_Qi (fun (r : Int32) (u : TR) => (r, u) = fnX4_followWord x a0) (AT D (tz cI cJ cP) A (fun (u : TR) => (wR cI cJ cP ad u))) A) (by decide) (Nat.le_of_ble_eq_true rfl) ?_
  intro p e s m below meth c A ls H hx hb hr hml hown hG hlocks hnm hA hS hP hK hD hl hN
  have hown : s.vm.findClass RX4 = some m.cls := hown
  have hl : lv_has ls 4 [(0, .ref (ad 0)), (1, .long a0)] := hl
  refine lv_aload_n hx hb dX4_followWord_0 rfl (lv_at hl 0 rfl) ?_
  refine va_get (D := D) (ci := 4) (v := .ref (ad 12)) hx hb hG inX4 hown hK hP 0 rfl rfl 6 (by decide) (hG _ kw124) (fun _ h9 => h9) rfl dX4_followWord_1 ?_
  refine va_get (D := D) (ci := 2) (v := .int (x.2.2.2.2.2.1.2.2)) hx hb hG inX2 hown hK hP 12 rfl rfl 2 (by decide) (hG _ kw119) (fun _ h9 => h9) rfl dX4_followWord_4 ?_
  refine lv_istore_n (lv' := [(3, .int (x.2.2.2.2.2.1.2.2)), (0, .ref (ad 0)), (1, .long (a0))]) hx hb dX4_followWord_7 rfl hl (by decide) rfl (fun ls hl => ?_)
  refine lv_lload_n hx hb dX4_followWord_8 rfl (lv_at hl 2 rfl) ?_
  refine lv_bipush (v := 33) hx hb dX4_followWord_9 (by decide) ?_
  refine lv_iconst (v := 3) hx hb dX4_followWord_11 (by decide) ?_
  refine k0Si (As := [.long (a0), .int ((33 : Int32)), .int ((3 : Int32))]) (rest := []) hx hb hml hown hG hl (okX4_field l D cI cJ cP  H.size a0 (33 : Int32) (3 : Int32) ) (cS 3 hG kw4 kw135 kw6 kw5 hdX4_field ⟨by decide, by decide⟩) hK hP hD hS hA hN rfl rfl (Nat.le_of_ble_eq_true rfl) dX4_followWord_12 ⟨Nat.zero_le _, Nat.zero_le _⟩ (fun r1 q1 H locs hP hD hS => ?_)
  have j1 : i3 r1 := by rw [q1]; exact (f3X a0 (33 : Int32))
  by_cases h2 : r1 = (0 : Int32)
  · refine lv_tableIn (off := 25) (tgt := 40) hx hb dX4_followWord_15 (by rw [h2]; decide) (by rw [h2]; decide) (by rw [h2]; decide) (by decide) ?_
    refine lv_aload_n hx hb dX4_followWord_40 rfl (lv_at hl 1 rfl) ?_
    refine va_get (D := D) (ci := 4) (v := .ref (ad 12)) hx hb hG inX4 hown hK hP 0 rfl rfl 6 (by decide) (hG _ kw124) (fun _ h9 => h9) rfl dX4_followWord_41 ?_
    refine lv_lload_n hx hb dX4_followWord_44 rfl (lv_at hl 2 rfl) ?_
    refine lv_iconst (v := 0) hx hb dX4_followWord_45 (by decide) ?_
    refine lv_bipush (v := 12) hx hb dX4_followWord_46 (by decide) ?_
    refine k0Si (As := [.long (a0), .int ((0 : Int32)), .int ((12 : Int32))]) (rest := [.ref (ad 12)]) hx hb hml hown hG hl (okX4_field l D cI cJ cP  H.size a0 (0 : Int32) (12 : Int32) ) (cS 3 hG kw4 kw135 kw6 kw5 hdX4_field ⟨by decide, by decide⟩) hK hP hD hS hA hN rfl rfl (Nat.le_of_ble_eq_true rfl) dX4_followWord_48 ⟨Nat.zero_le _, Nat.zero_le _⟩ (fun r3 q3 H locs hP hD hS => ?_)
    have j3 : i12 r3 := by rw [q3]; exact (f12X a0 (0 : Int32))
    refine pu (D := D) (ci := 2) (v := .int (r3)) (ty := .int) (W' := (wR cI cJ cP ad (x.1, x.2.1, x.2.2.1, x.2.2.2.1, x.2.2.2.2.1, (x.2.2.2.2.2.1.1, r3, x.2.2.2.2.2.1.2.2), x.2.2.2.2.2.2.1, x.2.2.2.2.2.2.2))) hx hb hG inX2 tyX2 tyokX2 nmX2 hown hK hP hD hS 12 rfl rfl 1 (by decide) (hG _ kw88) (fun _ h9 => h9) rfl (by decide +kernel) rfl rfl (Nat.le_of_ble_eq_true rfl) dX4_followWord_51 rfl (fun H locs hP hD hS => ?_)
    refine lv_iconst (v := 1) hx hb dX4_followWord_54 (by decide) ?_
    exact retz (u := (x.1, x.2.1, x.2.2.1, x.2.2.2.1, x.2.2.2.2.1, (x.2.2.2.2.2.1.1, r3, x.2.2.2.2.2.1.2.2), x.2.2.2.2.2.2.1, x.2.2.2.2.2.2.2)) hx hb hr hlocks (by decide) hK hP hD hS dX4_followWord_55 (by unfold fnX4_followWord; rw [← q1]; (try dsimp only); rw [if_pos h2]; rw [← q3]; (try dsimp only); (try exact rfl))
  by_cases h4 : r1 = (1 : Int32)
  · refine lv_tableIn (off := 41) (tgt := 56) hx hb dX4_followWord_15 (by rw [h4]; decide) (by rw [h4]; decide) (by rw [h4]; decide) (by decide) ?_
    refine lv_aload_n hx hb dX4_followWord_56 rfl (lv_at hl 1 rfl) ?_
    refine va_get (D := D) (ci := 4) (v := .ref (ad 12)) hx hb hG inX4 hown hK hP 0 rfl rfl 6 (by decide) (hG _ kw124) (fun _ h9 => h9) rfl dX4_followWord_57 ?_
    refine lv_lload_n hx hb dX4_followWord_60 rfl (lv_at hl 2 rfl) ?_
    refine kVv (As := [.long (a0)]) (rest := []) (W' := (fun u5 => (wR cI cJ cP ad (x.1, x.2.1, x.2.2.1, x.2.2.2.1, x.2.2.2.2.1, u5, x.2.2.2.2.2.2.1, x.2.2.2.2.2.2.2)))) hx hb hml hown hG hl (okX2_takeFrom l D cI cJ cP (ad 12) H.size x.2.2.2.2.2.1 a0 hI.2.2.2.2.2.1) (cV 1 hG kw154 kw155 kw156 kw157 kw99 hdX2_takeFrom ⟨by decide, by decide⟩) 12 2 rfl rfl hK hP hD hS hA hN [12] rfl rfl rfl (fun _ => rfl) (fun _ => rfl) rfl rfl (Nat.le_of_ble_eq_true rfl) dX4_followWord_61 ⟨Nat.zero_le _, Nat.zero_le _⟩ (fun u5 q5 H locs hP hD hS => ?_)
    have j5 : ivX2_takeFromP u5 := by rw [q5]; exact ivX2_takeFrom x.2.2.2.2.2.1 a0 hI.2.2.2.2.2.1
    refine lv_goto (tgt := 115) hx hb dX4_followWord_64 (by decide) ?_
    refine lv_aload_n hx hb dX4_followWord_115 rfl (lv_at hl 1 rfl) ?_
    refine va_get (D := D) (ci := 4) (v := .ref (ad 12)) hx hb hG inX4 hown hK hP 0 rfl rfl 6 (by decide) (hG _ kw124) (fun _ h9 => h9) rfl dX4_followWord_116 ?_
    refine lv_iload_n hx hb dX4_followWord_119 rfl (lv_at hl 0 rfl) ?_
    refine lv_aload_n hx hb dX4_followWord_120 rfl (lv_at hl 1 rfl) ?_
    refine va_get (D := D) (ci := 4) (v := .ref (ad 12)) hx hb hG inX4 hown hK hP 0 rfl rfl 6 (by decide) (hG _ kw124) (fun _ h9 => h9) rfl dX4_followWord_121 ?_
    refine va_get (D := D) (ci := 2) (v := .int (u5.2.2)) hx hb hG inX2 hown hK hP 12 rfl rfl 2 (by decide) (hG _ kw119) (fun _ h9 => h9) rfl dX4_followWord_124 ?_
    refine va_mmax hx hb (hml.trans hl.1.symm) hown (hG _ kw150) (hG _ kw151) (hG _ kw152) (hG _ kw153) (by decide) (Nat.le_of_ble_eq_true rfl) (Nat.zero_le _) (Nat.zero_le _) dX4_followWord_127 ?_
    refine pu (D := D) (ci := 2) (v := .int ((if x.2.2.2.2.2.1.2.2 < u5.2.2 then u5.2.2 else x.2.2.2.2.2.1.2.2))) (ty := .int) (W' := (wR cI cJ cP ad (x.1, x.2.1, x.2.2.1, x.2.2.2.1, x.2.2.2.2.1, (u5.1, u5.2.1, (if x.2.2.2.2.2.1.2.2 < u5.2.2 then u5.2.2 else x.2.2.2.2.2.1.2.2)), x.2.2.2.2.2.2.1, x.2.2.2.2.2.2.2))) hx hb hG inX2 tyX2 tyokX2 nmX2 hown hK hP hD hS 12 rfl rfl 2 (by decide) (hG _ kw119) (fun _ h9 => h9) rfl (by decide +kernel) rfl rfl (Nat.le_of_ble_eq_true rfl) dX4_followWord_130 rfl (fun H locs hP hD hS => ?_)
    refine lv_iconst (v := 1) hx hb dX4_followWord_133 (by decide) ?_
    exact retz (u := (x.1, x.2.1, x.2.2.1, x.2.2.2.1, x.2.2.2.2.1, (u5.1, u5.2.1, (if x.2.2.2.2.2.1.2.2 < u5.2.2 then u5.2.2 else x.2.2.2.2.2.1.2.2)), x.2.2.2.2.2.2.1, x.2.2.2.2.2.2.2)) hx hb hr hlocks (by decide) hK hP hD hS dX4_followWord_134 (by unfold fnX4_followWord; rw [← q1]; (try dsimp only); rw [if_neg h2]; rw [if_pos h4]; rw [← q5]; (try dsimp only); (try exact rfl))
  by_cases h6 : r1 = (2 : Int32)
  · refine lv_tableIn (off := 52) (tgt := 67) hx hb dX4_followWord_15 (by rw [h6]; decide) (by rw [h6]; decide) (by rw [h6]; decide) (by decide) ?_
    refine lv_aload_n hx hb dX4_followWord_67 rfl (lv_at hl 1 rfl) ?_
    refine va_get (D := D) (ci := 4) (v := .ref (ad 12)) hx hb hG inX4 hown hK hP 0 rfl rfl 6 (by decide) (hG _ kw124) (fun _ h9 => h9) rfl dX4_followWord_68 ?_
    refine lv_aload_n hx hb dX4_followWord_71 rfl (lv_at hl 1 rfl) ?_
    refine va_get (D := D) (ci := 4) (v := .ref (ad 14)) hx hb hG inX4 hown hK hP 0 rfl rfl 4 (by decide) (hG _ kw149) (fun _ h9 => h9) rfl dX4_followWord_72 ?_
    refine lv_lload_n hx hb dX4_followWord_75 rfl (lv_at hl 2 rfl) ?_
    refine lv_bipush (v := 18) hx hb dX4_followWord_76 (by decide) ?_
    refine lv_iconst (v := 2) hx hb dX4_followWord_78 (by decide) ?_
    refine k0Si (As := [.long (a0), .int ((18 : Int32)), .int ((2 : Int32))]) (rest := [.ref (ad 14), .ref (ad 12)]) hx hb hml hown hG hl (okX4_field l D cI cJ cP  H.size a0 (18 : Int32) (2 : Int32) ) (cS 3 hG kw4 kw135 kw6 kw5 hdX4_field ⟨by decide, by decide⟩) hK hP hD hS hA hN rfl rfl (Nat.le_of_ble_eq_true rfl) dX4_followWord_79 ⟨Nat.zero_le _, Nat.zero_le _⟩ (fun r7 q7 H locs hP hD hS => ?_)
    have j7 : i2 r7 := by rw [q7]; exact (f2X a0 (18 : Int32))
    by_cases h8 : r7 = (0 : Int32)
    · refine gq (D := D) (j := 0) (x := ad 15) hx hb hK hP 14 2 rfl rfl (by rw [h8]; exact inL (by decide)) (by rw [h8]; decide) rfl dX4_followWord_82 ?_
      refine kVv (As := [.ref (ad 15)]) (rest := []) (W' := (fun u9 => (wR cI cJ cP ad (x.1, x.2.1, x.2.2.1, x.2.2.2.1, x.2.2.2.2.1, u9, x.2.2.2.2.2.2.1, x.2.2.2.2.2.2.2)))) hx hb hml hown hG hl (okX2_become l D cI cJ cP (ad 12) (ad 15) H.size x.2.2.2.2.2.1 x.2.2.2.1.1 hI.2.2.2.2.2.1 hI.2.2.2.1.1) (cV 1 hG kw98 kw100 kw101 kw102 kw99 hdX2_become ⟨by decide, by decide⟩) 12 2 rfl rfl hK hP hD hS hA hN [12, 15] rfl rfl rfl (fun _ => rfl) (fun _ => rfl) rfl rfl (Nat.le_of_ble_eq_true rfl) dX4_followWord_83 ⟨Nat.zero_le _, Nat.zero_le _⟩ (fun u9 q9 H locs hP hD hS => ?_)
      have j9 : ivX2_becomeP u9 := by rw [q9]; exact ivX2_become x.2.2.2.2.2.1 x.2.2.2.1.1 hI.2.2.2.2.2.1 hI.2.2.2.1.1
      refine lv_aload_n hx hb dX4_followWord_86 rfl (lv_at hl 1 rfl) ?_
      refine va_get (D := D) (ci := 4) (v := .ref (ad 12)) hx hb hG inX4 hown hK hP 0 rfl rfl 6 (by decide) (hG _ kw124) (fun _ h9 => h9) rfl dX4_followWord_87 ?_
      refine lv_aload_n hx hb dX4_followWord_90 rfl (lv_at hl 1 rfl) ?_
      refine va_get (D := D) (ci := 4) (v := .ref (ad 12)) hx hb hG inX4 hown hK hP 0 rfl rfl 6 (by decide) (hG _ kw124) (fun _ h9 => h9) rfl dX4_followWord_91 ?_
      refine va_get (D := D) (ci := 2) (v := .int (u9.2.1)) hx hb hG inX2 hown hK hP 12 rfl rfl 1 (by decide) (hG _ kw88) (fun _ h9 => h9) rfl dX4_followWord_94 ?_
      refine lv_lload_n hx hb dX4_followWord_97 rfl (lv_at hl 2 rfl) ?_
      refine lv_iconst (v := 0) hx hb dX4_followWord_98 (by decide) ?_
      refine lv_bipush (v := 12) hx hb dX4_followWord_99 (by decide) ?_
      refine k0Si (As := [.long (a0), .int ((0 : Int32)), .int ((12 : Int32))]) (rest := [.int (u9.2.1), .ref (ad 12)]) hx hb hml hown hG hl (okX4_field l D cI cJ cP  H.size a0 (0 : Int32) (12 : Int32) ) (cS 3 hG kw4 kw135 kw6 kw5 hdX4_field ⟨by decide, by decide⟩) hK hP hD hS hA hN rfl rfl (Nat.le_of_ble_eq_true rfl) dX4_followWord_101 ⟨Nat.zero_le _, Nat.zero_le _⟩ (fun r10 q10 H locs hP hD hS => ?_)
      have j10 : i12 r10 := by rw [q10]; exact (f12X a0 (0 : Int32))
      refine k0Si (As := [.int (u9.2.1), .int (r10)]) (rest := [.ref (ad 12)]) hx hb hml hown hG hl (okX4_sum l D cI cJ cP  H.size u9.2.1 r10 ) (cS 2 hG kw34 kw89 kw35 kw5 hdX4_sum ⟨by decide, by decide⟩) hK hP hD hS hA hN rfl rfl (Nat.le_of_ble_eq_true rfl) dX4_followWord_104 ⟨Nat.zero_le _, Nat.zero_le _⟩ (fun r11 q11 H locs hP hD hS => ?_)
      have j11 : i12 r11 := by rw [q11]; exact (sumX u9.2.1 r10)
      refine pu (D := D) (ci := 2) (v := .int (r11)) (ty := .int) (W' := (wR cI cJ cP ad (x.1, x.2.1, x.2.2.1, x.2.2.2.1, x.2.2.2.2.1, (u9.1, r11, u9.2.2), x.2.2.2.2.2.2.1, x.2.2.2.2.2.2.2))) hx hb hG inX2 tyX2 tyokX2 nmX2 hown hK hP hD hS 12 rfl rfl 1 (by decide) (hG _ kw88) (fun _ h9 => h9) rfl (by decide +kernel) rfl rfl (Nat.le_of_ble_eq_true rfl) dX4_followWord_107 rfl (fun H locs hP hD hS => ?_)
      refine lv_goto (tgt := 115) hx hb dX4_followWord_110 (by decide) ?_
      refine lv_aload_n hx hb dX4_followWord_115 rfl (lv_at hl 1 rfl) ?_
      refine va_get (D := D) (ci := 4) (v := .ref (ad 12)) hx hb hG inX4 hown hK hP 0 rfl rfl 6 (by decide) (hG _ kw124) (fun _ h9 => h9) rfl dX4_followWord_116 ?_
      refine lv_iload_n hx hb dX4_followWord_119 rfl (lv_at hl 0 rfl) ?_
      refine lv_aload_n hx hb dX4_followWord_120 rfl (lv_at hl 1 rfl) ?_
      refine va_get (D := D) (ci := 4) (v := .ref (ad 12)) hx hb hG inX4 hown hK hP 0 rfl rfl 6 (by decide) (hG _ kw124) (fun _ h9 => h9) rfl dX4_followWord_121 ?_
      refine va_get (D := D) (ci := 2) (v := .int (u9.2.2)) hx hb hG inX2 hown hK hP 12 rfl rfl 2 (by decide) (hG _ kw119) (fun _ h9 => h9) rfl dX4_followWord_124 ?_
      refine va_mmax hx hb (hml.trans hl.1.symm) hown (hG _ kw150) (hG _ kw151) (hG _ kw152) (hG _ kw153) (by decide) (Nat.le_of_ble_eq_true rfl) (Nat.zero_le _) (Nat.zero_le _) dX4_followWord_127 ?_
      refine pu (D := D) (ci := 2) (v := .int ((if x.2.2.2.2.2.1.2.2 < u9.2.2 then u9.2.2 else x.2.2.2.2.2.1.2.2))) (ty := .int) (W' := (wR cI cJ cP ad (x.1, x.2.1, x.2.2.1, x.2.2.2.1, x.2.2.2.2.1, (u9.1, r11, (if x.2.2.2.2.2.1.2.2 < u9.2.2 then u9.2.2 else x.2.2.2.2.2.1.2.2)), x.2.2.2.2.2.2.1, x.2.2.2.2.2.2.2))) hx hb hG inX2 tyX2 tyokX2 nmX2 hown hK hP hD hS 12 rfl rfl 2 (by decide) (hG _ kw119) (fun _ h9 => h9) rfl (by decide +kernel) rfl rfl (Nat.le_of_ble_eq_true rfl) dX4_followWord_130 rfl (fun H locs hP hD hS => ?_)
      refine lv_iconst (v := 1) hx hb dX4_followWord_133 (by decide) ?_
      exact retz (u := (x.1, x.2.1, x.2.2.1, x.2.2.2.1, x.2.2.2.2.1, (u9.1, r11, (if x.2.2.2.2.2.1.2.2 < u9.2.2 then u9.2.2 else x.2.2.2.2.2.1.2.2)), x.2.2.2.2.2.2.1, x.2.2.2.2.2.2.2)) hx hb hr hlocks (by decide) hK hP hD hS dX4_followWord_134 (by unfold fnX4_followWord; rw [← q1]; (try dsimp only); rw [if_neg h2]; rw [if_neg h4]; rw [if_pos h6]; rw [← q7]; (try dsimp only); rw [if_pos h8]; rw [← q9]; (try dsimp only); rw [← q10]; (try dsimp only); rw [← q11]; (try dsimp only); (try exact rfl))
    by_cases h12 : r7 = (1 : Int32)
    · refine gq (D := D) (j := 1) (x := ad 16) hx hb hK hP 14 2 rfl rfl (by rw [h12]; exact inL (by decide)) (by rw [h12]; decide) rfl dX4_followWord_82 ?_
      refine kVv (As := [.ref (ad 16)]) (rest := []) (W' := (fun u13 => (wR cI cJ cP ad (x.1, x.2.1, x.2.2.1, x.2.2.2.1, x.2.2.2.2.1, u13, x.2.2.2.2.2.2.1, x.2.2.2.2.2.2.2)))) hx hb hml hown hG hl (okX2_become l D cI cJ cP (ad 12) (ad 16) H.size x.2.2.2.2.2.1 x.2.2.2.1.2.1 hI.2.2.2.2.2.1 hI.2.2.2.1.2.1) (cV 1 hG kw98 kw100 kw101 kw102 kw99 hdX2_become ⟨by decide, by decide⟩) 12 2 rfl rfl hK hP hD hS hA hN [12, 16] rfl rfl rfl (fun _ => rfl) (fun _ => rfl) rfl rfl (Nat.le_of_ble_eq_true rfl) dX4_followWord_83 ⟨Nat.zero_le _, Nat.zero_le _⟩ (fun u13 q13 H locs hP hD hS => ?_)
      have j13 : ivX2_becomeP u13 := by rw [q13]; exact ivX2_become x.2.2.2.2.2.1 x.2.2.2.1.2.1 hI.2.2.2.2.2.1 hI.2.2.2.1.2.1
      refine lv_aload_n hx hb dX4_followWord_86 rfl (lv_at hl 1 rfl) ?_
      refine va_get (D := D) (ci := 4) (v := .ref (ad 12)) hx hb hG inX4 hown hK hP 0 rfl rfl 6 (by decide) (hG _ kw124) (fun _ h9 => h9) rfl dX4_followWord_87 ?_
      refine lv_aload_n hx hb dX4_followWord_90 rfl (lv_at hl 1 rfl) ?_
      refine va_get (D := D) (ci := 4) (v := .ref (ad 12)) hx hb hG inX4 hown hK hP 0 rfl rfl 6 (by decide) (hG _ kw124) (fun _ h9 => h9) rfl dX4_followWord_91 ?_
      refine va_get (D := D) (ci := 2) (v := .int (u13.2.1)) hx hb hG inX2 hown hK hP 12 rfl rfl 1 (by decide) (hG _ kw88) (fun _ h9 => h9) rfl dX4_followWord_94 ?_
      refine lv_lload_n hx hb dX4_followWord_97 rfl (lv_at hl 2 rfl) ?_
      refine lv_iconst (v := 0) hx hb dX4_followWord_98 (by decide) ?_
      refine lv_bipush (v := 12) hx hb dX4_followWord_99 (by decide) ?_
      refine k0Si (As := [.long (a0), .int ((0 : Int32)), .int ((12 : Int32))]) (rest := [.int (u13.2.1), .ref (ad 12)]) hx hb hml hown hG hl (okX4_field l D cI cJ cP  H.size a0 (0 : Int32) (12 : Int32) ) (cS 3 hG kw4 kw135 kw6 kw5 hdX4_field ⟨by decide, by decide⟩) hK hP hD hS hA hN rfl rfl (Nat.le_of_ble_eq_true rfl) dX4_followWord_101 ⟨Nat.zero_le _, Nat.zero_le _⟩ (fun r14 q14 H locs hP hD hS => ?_)
      have j14 : i12 r14 := by rw [q14]; exact (f12X a0 (0 : Int32))
      refine k0Si (As := [.int (u13.2.1), .int (r14)]) (rest := [.ref (ad 12)]) hx hb hml hown hG hl (okX4_sum l D cI cJ cP  H.size u13.2.1 r14 ) (cS 2 hG kw34 kw89 kw35 kw5 hdX4_sum ⟨by decide, by decide⟩) hK hP hD hS hA hN rfl rfl (Nat.le_of_ble_eq_true rfl) dX4_followWord_104 ⟨Nat.zero_le _, Nat.zero_le _⟩ (fun r15 q15 H locs hP hD hS => ?_)
      have j15 : i12 r15 := by rw [q15]; exact (sumX u13.2.1 r14)
      refine pu (D := D) (ci := 2) (v := .int (r15)) (ty := .int) (W' := (wR cI cJ cP ad (x.1, x.2.1, x.2.2.1, x.2.2.2.1, x.2.2.2.2.1, (u13.1, r15, u13.2.2), x.2.2.2.2.2.2.1, x.2.2.2.2.2.2.2))) hx hb hG inX2 tyX2 tyokX2 nmX2 hown hK hP hD hS 12 rfl rfl 1 (by decide) (hG _ kw88) (fun _ h9 => h9) rfl (by decide +kernel) rfl rfl (Nat.le_of_ble_eq_true rfl) dX4_followWord_107 rfl (fun H locs hP hD hS => ?_)
      refine lv_goto (tgt := 115) hx hb dX4_followWord_110 (by decide) ?_
      refine lv_aload_n hx hb dX4_followWord_115 rfl (lv_at hl 1 rfl) ?_
      refine va_get (D := D) (ci := 4) (v := .ref (ad 12)) hx hb hG inX4 hown hK hP 0 rfl rfl 6 (by decide) (hG _ kw124) (fun _ h9 => h9) rfl dX4_followWord_116 ?_
      refine lv_iload_n hx hb dX4_followWord_119 rfl (lv_at hl 0 rfl) ?_
      refine lv_aload_n hx hb dX4_followWord_120 rfl (lv_at hl 1 rfl) ?_
      refine va_get (D := D) (ci := 4) (v := .ref (ad 12)) hx hb hG inX4 hown hK hP 0 rfl rfl 6 (by decide) (hG _ kw124) (fun _ h9 => h9) rfl dX4_followWord_121 ?_
      refine va_get (D := D) (ci := 2) (v := .int (u13.2.2)) hx hb hG inX2 hown hK hP 12 rfl rfl 2 (by decide) (hG _ kw119) (fun _ h9 => h9) rfl dX4_followWord_124 ?_
      refine va_mmax hx hb (hml.trans hl.1.symm) hown (hG _ kw150) (hG _ kw151) (hG _ kw152) (hG _ kw153) (by decide) (Nat.le_of_ble_eq_true rfl) (Nat.zero_le _) (Nat.zero_le _) dX4_followWord_127 ?_
      refine pu (D := D) (ci := 2) (v := .int ((if x.2.2.2.2.2.1.2.2 < u13.2.2 then u13.2.2 else x.2.2.2.2.2.1.2.2))) (ty := .int) (W' := (wR cI cJ cP ad (x.1, x.2.1, x.2.2.1, x.2.2.2.1, x.2.2.2.2.1, (u13.1, r15, (if x.2.2.2.2.2.1.2.2 < u13.2.2 then u13.2.2 else x.2.2.2.2.2.1.2.2)), x.2.2.2.2.2.2.1, x.2.2.2.2.2.2.2))) hx hb hG inX2 tyX2 tyokX2 nmX2 hown hK hP hD hS 12 rfl rfl 2 (by decide) (hG _ kw119) (fun _ h9 => h9) rfl (by decide +kernel) rfl rfl (Nat.le_of_ble_eq_true rfl) dX4_followWord_130 rfl (fun H locs hP hD hS => ?_)
      refine lv_iconst (v := 1) hx hb dX4_followWord_133 (by decide) ?_
      exact retz (u := (x.1, x.2.1, x.2.2.1, x.2.2.2.1, x.2.2.2.2.1, (u13.1, r15, (if x.2.2.2.2.2.1.2.2 < u13.2.2 then u13.2.2 else x.2.2.2.2.2.1.2.2)), x.2.2.2.2.2.2.1, x.2.2.2.2.2.2.2)) hx hb hr hlocks (by decide) hK hP hD hS dX4_followWord_134 (by unfold fnX4_followWord; rw [← q1]; (try dsimp only); rw [if_neg h2]; rw [if_neg h4]; rw [if_pos h6]; rw [← q7]; (try dsimp only); rw [if_neg h8]; rw [if_pos h12]; rw [← q13]; (try dsimp only); rw [← q14]; (try dsimp only); rw [← q15]; (try dsimp only); (try exact rfl))
    by_cases h16 : r7 = (2 : Int32)
    · refine gq (D := D) (j := 2) (x := ad 17) hx hb hK hP 14 2 rfl rfl (by rw [h16]; exact inL (by decide)) (by rw [h16]; decide) rfl dX4_followWord_82 ?_
      refine kVv (As := [.ref (ad 17)]) (rest := []) (W' := (fun u17 => (wR cI cJ cP ad (x.1, x.2.1, x.2.2.1, x.2.2.2.1, x.2.2.2.2.1, u17, x.2.2.2.2.2.2.1, x.2.2.2.2.2.2.2)))) hx hb hml hown hG hl (okX2_become l D cI cJ cP (ad 12) (ad 17) H.size x.2.2.2.2.2.1 x.2.2.2.1.2.2.1 hI.2.2.2.2.2.1 hI.2.2.2.1.2.2.1) (cV 1 hG kw98 kw100 kw101 kw102 kw99 hdX2_become ⟨by decide, by decide⟩) 12 2 rfl rfl hK hP hD hS hA hN [12, 17] rfl rfl rfl (fun _ => rfl) (fun _ => rfl) rfl rfl (Nat.le_of_ble_eq_true rfl) dX4_followWord_83 ⟨Nat.zero_le _, Nat.zero_le _⟩ (fun u17 q17 H locs hP hD hS => ?_)
      have j17 : ivX2_becomeP u17 := by rw [q17]; exact ivX2_become x.2.2.2.2.2.1 x.2.2.2.1.2.2.1 hI.2.2.2.2.2.1 hI.2.2.2.1.2.2.1
      refine lv_aload_n hx hb dX4_followWord_86 rfl (lv_at hl 1 rfl) ?_
      refine va_get (D := D) (ci := 4) (v := .ref (ad 12)) hx hb hG inX4 hown hK hP 0 rfl rfl 6 (by decide) (hG _ kw124) (fun _ h9 => h9) rfl dX4_followWord_87 ?_
      refine lv_aload_n hx hb dX4_followWord_90 rfl (lv_at hl 1 rfl) ?_
      refine va_get (D := D) (ci := 4) (v := .ref (ad 12)) hx hb hG inX4 hown hK hP 0 rfl rfl 6 (by decide) (hG _ kw124) (fun _ h9 => h9) rfl dX4_followWord_91 ?_
      refine va_get (D := D) (ci := 2) (v := .int (u17.2.1)) hx hb hG inX2 hown hK hP 12 rfl rfl 1 (by decide) (hG _ kw88) (fun _ h9 => h9) rfl dX4_followWord_94 ?_
      refine lv_lload_n hx hb dX4_followWord_97 rfl (lv_at hl 2 rfl) ?_
      refine lv_iconst (v := 0) hx hb dX4_followWord_98 (by decide) ?_
      refine lv_bipush (v := 12) hx hb dX4_followWord_99 (by decide) ?_
      refine k0Si (As := [.long (a0), .int ((0 : Int32)), .int ((12 : Int32))]) (rest := [.int (u17.2.1), .ref (ad 12)]) hx hb hml hown hG hl (okX4_field l D cI cJ cP  H.size a0 (0 : Int32) (12 : Int32) ) (cS 3 hG kw4 kw135 kw6 kw5 hdX4_field ⟨by decide, by decide⟩) hK hP hD hS hA hN rfl rfl (Nat.le_of_ble_eq_true rfl) dX4_followWord_101 ⟨Nat.zero_le _, Nat.zero_le _⟩ (fun r18 q18 H locs hP hD hS => ?_)
      have j18 : i12 r18 := by rw [q18]; exact (f12X a0 (0 : Int32))
      refine k0Si (As := [.int (u17.2.1), .int (r18)]) (rest := [.ref (ad 12)]) hx hb hml hown hG hl (okX4_sum l D cI cJ cP  H.size u17.2.1 r18 ) (cS 2 hG kw34 kw89 kw35 kw5 hdX4_sum ⟨by decide, by decide⟩) hK hP hD hS hA hN rfl rfl (Nat.le_of_ble_eq_true rfl) dX4_followWord_104 ⟨Nat.zero_le _, Nat.zero_le _⟩ (fun r19 q19 H locs hP hD hS => ?_)
      have j19 : i12 r19 := by rw [q19]; exact (sumX u17.2.1 r18)
      refine pu (D := D) (ci := 2) (v := .int (r19)) (ty := .int) (W' := (wR cI cJ cP ad (x.1, x.2.1, x.2.2.1, x.2.2.2.1, x.2.2.2.2.1, (u17.1, r19, u17.2.2), x.2.2.2.2.2.2.1, x.2.2.2.2.2.2.2))) hx hb hG inX2 tyX2 tyokX2 nmX2 hown hK hP hD hS 12 rfl rfl 1 (by decide) (hG _ kw88) (fun _ h9 => h9) rfl (by decide +kernel) rfl rfl (Nat.le_of_ble_eq_true rfl) dX4_followWord_107 rfl (fun H locs hP hD hS => ?_)
      refine lv_goto (tgt := 115) hx hb dX4_followWord_110 (by decide) ?_
      refine lv_aload_n hx hb dX4_followWord_115 rfl (lv_at hl 1 rfl) ?_
      refine va_get (D := D) (ci := 4) (v := .ref (ad 12)) hx hb hG inX4 hown hK hP 0 rfl rfl 6 (by decide) (hG _ kw124) (fun _ h9 => h9) rfl dX4_followWord_116 ?_
      refine lv_iload_n hx hb dX4_followWord_119 rfl (lv_at hl 0 rfl) ?_
      refine lv_aload_n hx hb dX4_followWord_120 rfl (lv_at hl 1 rfl) ?_
      refine va_get (D := D) (ci := 4) (v := .ref (ad 12)) hx hb hG inX4 hown hK hP 0 rfl rfl 6 (by decide) (hG _ kw124) (fun _ h9 => h9) rfl dX4_followWord_121 ?_
      refine va_get (D := D) (ci := 2) (v := .int (u17.2.2)) hx hb hG inX2 hown hK hP 12 rfl rfl 2 (by decide) (hG _ kw119) (fun _ h9 => h9) rfl dX4_followWord_124 ?_
      refine va_mmax hx hb (hml.trans hl.1.symm) hown (hG _ kw150) (hG _ kw151) (hG _ kw152) (hG _ kw153) (by decide) (Nat.le_of_ble_eq_true rfl) (Nat.zero_le _) (Nat.zero_le _) dX4_followWord_127 ?_
      refine pu (D := D) (ci := 2) (v := .int ((if x.2.2.2.2.2.1.2.2 < u17.2.2 then u17.2.2 else x.2.2.2.2.2.1.2.2))) (ty := .int) (W' := (wR cI cJ cP ad (x.1, x.2.1, x.2.2.1, x.2.2.2.1, x.2.2.2.2.1, (u17.1, r19, (if x.2.2.2.2.2.1.2.2 < u17.2.2 then u17.2.2 else x.2.2.2.2.2.1.2.2)), x.2.2.2.2.2.2.1, x.2.2.2.2.2.2.2))) hx hb hG inX2 tyX2 tyokX2 nmX2 hown hK hP hD hS 12 rfl rfl 2 (by decide) (hG _ kw119) (fun _ h9 => h9) rfl (by decide +kernel) rfl rfl (Nat.le_of_ble_eq_true rfl) dX4_followWord_130 rfl (fun H locs hP hD hS => ?_)
      refine lv_iconst (v := 1) hx hb dX4_followWord_133 (by decide) ?_
      exact retz (u := (x.1, x.2.1, x.2.2.1, x.2.2.2.1, x.2.2.2.2.1, (u17.1, r19, (if x.2.2.2.2.2.1.2.2 < u17.2.2 then u17.2.2 else x.2.2.2.2.2.1.2.2)), x.2.2.2.2.2.2.1, x.2.2.2.2.2.2.2)) hx hb hr hlocks (by decide) hK hP hD hS dX4_followWord_134 (by unfold fnX4_followWord; rw [← q1]; (try dsimp only); rw [if_neg h2]; rw [if_neg h4]; rw [if_pos h6]; rw [← q7]; (try dsimp only); rw [if_neg h8]; rw [if_neg h12]; rw [if_pos h16]; rw [← q17]; (try dsimp only); rw [← q18]; (try dsimp only); rw [← q19]; (try dsimp only); (try exact rfl))
    have h20 : r7 = (3 : Int32) := c4l j7 h8 h12 h16
    refine gq (D := D) (j := 3) (x := ad 18) hx hb hK hP 14 2 rfl rfl (by rw [h20]; exact inL (by decide)) (by rw [h20]; decide) rfl dX4_followWord_82 ?_
    refine kVv (As := [.ref (ad 18)]) (rest := []) (W' := (fun u21 => (wR cI cJ cP ad (x.1, x.2.1, x.2.2.1, x.2.2.2.1, x.2.2.2.2.1, u21, x.2.2.2.2.2.2.1, x.2.2.2.2.2.2.2)))) hx hb hml hown hG hl (okX2_become l D cI cJ cP (ad 12) (ad 18) H.size x.2.2.2.2.2.1 x.2.2.2.1.2.2.2 hI.2.2.2.2.2.1 hI.2.2.2.1.2.2.2) (cV 1 hG kw98 kw100 kw101 kw102 kw99 hdX2_become ⟨by decide, by decide⟩) 12 2 rfl rfl hK hP hD hS hA hN [12, 18] rfl rfl rfl (fun _ => rfl) (fun _ => rfl) rfl rfl (Nat.le_of_ble_eq_true rfl) dX4_followWord_83 ⟨Nat.zero_le _, Nat.zero_le _⟩ (fun u21 q21 H locs hP hD hS => ?_)
    have j21 : ivX2_becomeP u21 := by rw [q21]; exact ivX2_become x.2.2.2.2.2.1 x.2.2.2.1.2.2.2 hI.2.2.2.2.2.1 hI.2.2.2.1.2.2.2
    refine lv_aload_n hx hb dX4_followWord_86 rfl (lv_at hl 1 rfl) ?_
    refine va_get (D := D) (ci := 4) (v := .ref (ad 12)) hx hb hG inX4 hown hK hP 0 rfl rfl 6 (by decide) (hG _ kw124) (fun _ h9 => h9) rfl dX4_followWord_87 ?_
    refine lv_aload_n hx hb dX4_followWord_90 rfl (lv_at hl 1 rfl) ?_
    refine va_get (D := D) (ci := 4) (v := .ref (ad 12)) hx hb hG inX4 hown hK hP 0 rfl rfl 6 (by decide) (hG _ kw124) (fun _ h9 => h9) rfl dX4_followWord_91 ?_
    refine va_get (D := D) (ci := 2) (v := .int (u21.2.1)) hx hb hG inX2 hown hK hP 12 rfl rfl 1 (by decide) (hG _ kw88) (fun _ h9 => h9) rfl dX4_followWord_94 ?_
    refine lv_lload_n hx hb dX4_followWord_97 rfl (lv_at hl 2 rfl) ?_
    refine lv_iconst (v := 0) hx hb dX4_followWord_98 (by decide) ?_
    refine lv_bipush (v := 12) hx hb dX4_followWord_99 (by decide) ?_
    refine k0Si (As := [.long (a0), .int ((0 : Int32)), .int ((12 : Int32))]) (rest := [.int (u21.2.1), .ref (ad 12)]) hx hb hml hown hG hl (okX4_field l D cI cJ cP  H.size a0 (0 : Int32) (12 : Int32) ) (cS 3 hG kw4 kw135 kw6 kw5 hdX4_field ⟨by decide, by decide⟩) hK hP hD hS hA hN rfl rfl (Nat.le_of_ble_eq_true rfl) dX4_followWord_101 ⟨Nat.zero_le _, Nat.zero_le _⟩ (fun r22 q22 H locs hP hD hS => ?_)
    have j22 : i12 r22 := by rw [q22]; exact (f12X a0 (0 : Int32))
    refine k0Si (As := [.int (u21.2.1), .int (r22)]) (rest := [.ref (ad 12)]) hx hb hml hown hG hl (okX4_sum l D cI cJ cP  H.size u21.2.1 r22 ) (cS 2 hG kw34 kw89 kw35 kw5 hdX4_sum ⟨by decide, by decide⟩) hK hP hD hS hA hN rfl rfl (Nat.le_of_ble_eq_true rfl) dX4_followWord_104 ⟨Nat.zero_le _, Nat.zero_le _⟩ (fun r23 q23 H locs hP hD hS => ?_)
    have j23 : i12 r23 := by rw [q23]; exact (sumX u21.2.1 r22)
    refine pu (D := D) (ci := 2) (v := .int (r23)) (ty := .int) (W' := (wR cI cJ cP ad (x.1, x.2.1, x.2.2.1, x.2.2.2.1, x.2.2.2.2.1, (u21.1, r23, u21.2.2), x.2.2.2.2.2.2.1, x.2.2.2.2.2.2.2))) hx hb hG inX2 tyX2 tyokX2 nmX2 hown hK hP hD hS 12 rfl rfl 1 (by decide) (hG _ kw88) (fun _ h9 => h9) rfl (by decide +kernel) rfl rfl (Nat.le_of_ble_eq_true rfl) dX4_followWord_107 rfl (fun H locs hP hD hS => ?_)
    refine lv_goto (tgt := 115) hx hb dX4_followWord_110 (by decide) ?_
    refine lv_aload_n hx hb dX4_followWord_115 rfl (lv_at hl 1 rfl) ?_
    refine va_get (D := D) (ci := 4) (v := .ref (ad 12)) hx hb hG inX4 hown hK hP 0 rfl rfl 6 (by decide) (hG _ kw124) (fun _ h9 => h9) rfl dX4_followWord_116 ?_
    refine lv_iload_n hx hb dX4_followWord_119 rfl (lv_at hl 0 rfl) ?_
    refine lv_aload_n hx hb dX4_followWord_120 rfl (lv_at hl 1 rfl) ?_
    refine va_get (D := D) (ci := 4) (v := .ref (ad 12)) hx hb hG inX4 hown hK hP 0 rfl rfl 6 (by decide) (hG _ kw124) (fun _ h9 => h9) rfl dX4_followWord_121 ?_
    refine va_get (D := D) (ci := 2) (v := .int (u21.2.2)) hx hb hG inX2 hown hK hP 12 rfl rfl 2 (by decide) (hG _ kw119) (fun _ h9 => h9) rfl dX4_followWord_124 ?_
    refine va_mmax hx hb (hml.trans hl.1.symm) hown (hG _ kw150) (hG _ kw151) (hG _ kw152) (hG _ kw153) (by decide) (Nat.le_of_ble_eq_true rfl) (Nat.zero_le _) (Nat.zero_le _) dX4_followWord_127 ?_
    refine pu (D := D) (ci := 2) (v := .int ((if x.2.2.2.2.2.1.2.2 < u21.2.2 then u21.2.2 else x.2.2.2.2.2.1.2.2))) (ty := .int) (W' := (wR cI cJ cP ad (x.1, x.2.1, x.2.2.1, x.2.2.2.1, x.2.2.2.2.1, (u21.1, r23, (if x.2.2.2.2.2.1.2.2 < u21.2.2 then u21.2.2 else x.2.2.2.2.2.1.2.2)), x.2.2.2.2.2.2.1, x.2.2.2.2.2.2.2))) hx hb hG inX2 tyX2 tyokX2 nmX2 hown hK hP hD hS 12 rfl rfl 2 (by decide) (hG _ kw119) (fun _ h9 => h9) rfl (by decide +kernel) rfl rfl (Nat.le_of_ble_eq_true rfl) dX4_followWord_130 rfl (fun H locs hP hD hS => ?_)
    refine lv_iconst (v := 1) hx hb dX4_followWord_133 (by decide) ?_
    exact retz (u := (x.1, x.2.1, x.2.2.1, x.2.2.2.1, x.2.2.2.2.1, (u21.1, r23, (if x.2.2.2.2.2.1.2.2 < u21.2.2 then u21.2.2 else x.2.2.2.2.2.1.2.2)), x.2.2.2.2.2.2.1, x.2.2.2.2.2.2.2)) hx hb hr hlocks (by decide) hK hP hD hS dX4_followWord_134 (by unfold fnX4_followWord; rw [← q1]; (try dsimp only); rw [if_neg h2]; rw [if_neg h4]; rw [if_pos h6]; rw [← q7]; (try dsimp only); rw [if_neg h8]; rw [if_neg h12]; rw [if_neg h16]; rw [← q21]; (try dsimp only); rw [← q22]; (try dsimp only); rw [← q23]; (try dsimp only); (try exact rfl))
  refine lv_tableOut (tgt := 113) hx hb dX4_followWord_15 (by have a0 := neI (n := 0) h2 (by decide); have a1 := neI (n := 1) h4 (by decide); have a2 := neI (n := 2) h6 (by decide); omega) (by decide) ?_
  refine lv_iconst (v := 0) hx hb dX4_followWord_113 (by decide) ?_
  exact retz (u := x) hx hb hr hlocks (by decide) hK hP hD hS dX4_followWord_114 (by unfold fnX4_followWord; rw [← q1]; (try dsimp only); rw [if_neg h2]; rw [if_neg h4]; rw [if_neg h6]; (try exact rfl))
def fnX4_startAddress (x : TR) (a0 : Int64) : TR :=
  let p1 := fnX4_field a0 (0 : Int32) (12 : Int32)
  if (a0 &&& (536870912 : Int64)) = (0 : Int64) then
   let p3 := fnX4_field a0 (24 : Int32) (2 : Int32)
   if p3 = (0 : Int32) then
    (x.1, x.2.1, x.2.2.1, x.2.2.2.1, x.2.2.2.2.1, (x.2.2.2.2.1.1, p1, x.2.2.2.2.1.2.2), x.2.2.2.2.2.2.1, x.2.2.2.2.2.2.2)
   else
    let p5 := fnX4_sum p1 (x.2.2.1 (p3).toNatClampNeg)
    (x.1, x.2.1, x.2.2.1, x.2.2.2.1, x.2.2.2.2.1, (x.2.2.2.2.1.1, p5, x.2.2.2.2.1.2.2), x.2.2.2.2.2.2.1, x.2.2.2.2.2.2.2)
  else
   let p6 := fnX4_field a0 (27 : Int32) (2 : Int32)
   if p6 = (0 : Int32) then
    let p8 := fnX4_sum x.2.2.2.1.1.2.1 p1
    let p9 := fnX4_field a0 (24 : Int32) (2 : Int32)
    if p9 = (0 : Int32) then
     (x.1, x.2.1, x.2.2.1, x.2.2.2.1, x.2.2.2.2.1, (x.2.2.2.1.1.1, p8, (if x.2.2.2.2.1.2.2 < x.2.2.2.1.1.2.2 then x.2.2.2.1.1.2.2 else x.2.2.2.2.1.2.2)), x.2.2.2.2.2.2.1, x.2.2.2.2.2.2.2)
    else
     let p11 := fnX4_sum p8 (x.2.2.1 (p9).toNatClampNeg)
     (x.1, x.2.1, x.2.2.1, x.2.2.2.1, x.2.2.2.2.1, (x.2.2.2.1.1.1, p11, (if x.2.2.2.2.1.2.2 < x.2.2.2.1.1.2.2 then x.2.2.2.1.1.2.2 else x.2.2.2.2.1.2.2)), x.2.2.2.2.2.2.1, x.2.2.2.2.2.2.2)
   else
    if p6 = (1 : Int32) then
     let p13 := fnX4_sum x.2.2.2.1.2.1.2.1 p1
     let p14 := fnX4_field a0 (24 : Int32) (2 : Int32)
     if p14 = (0 : Int32) then
      (x.1, x.2.1, x.2.2.1, x.2.2.2.1, x.2.2.2.2.1, (x.2.2.2.1.2.1.1, p13, (if x.2.2.2.2.1.2.2 < x.2.2.2.1.2.1.2.2 then x.2.2.2.1.2.1.2.2 else x.2.2.2.2.1.2.2)), x.2.2.2.2.2.2.1, x.2.2.2.2.2.2.2)
     else
      let p16 := fnX4_sum p13 (x.2.2.1 (p14).toNatClampNeg)
      (x.1, x.2.1, x.2.2.1, x.2.2.2.1, x.2.2.2.2.1, (x.2.2.2.1.2.1.1, p16, (if x.2.2.2.2.1.2.2 < x.2.2.2.1.2.1.2.2 then x.2.2.2.1.2.1.2.2 else x.2.2.2.2.1.2.2)), x.2.2.2.2.2.2.1, x.2.2.2.2.2.2.2)
    else
     if p6 = (2 : Int32) then
      let p18 := fnX4_sum x.2.2.2.1.2.2.1.2.1 p1
      let p19 := fnX4_field a0 (24 : Int32) (2 : Int32)
      if p19 = (0 : Int32) then
       (x.1, x.2.1, x.2.2.1, x.2.2.2.1, x.2.2.2.2.1, (x.2.2.2.1.2.2.1.1, p18, (if x.2.2.2.2.1.2.2 < x.2.2.2.1.2.2.1.2.2 then x.2.2.2.1.2.2.1.2.2 else x.2.2.2.2.1.2.2)), x.2.2.2.2.2.2.1, x.2.2.2.2.2.2.2)
      else
       let p21 := fnX4_sum p18 (x.2.2.1 (p19).toNatClampNeg)
       (x.1, x.2.1, x.2.2.1, x.2.2.2.1, x.2.2.2.2.1, (x.2.2.2.1.2.2.1.1, p21, (if x.2.2.2.2.1.2.2 < x.2.2.2.1.2.2.1.2.2 then x.2.2.2.1.2.2.1.2.2 else x.2.2.2.2.1.2.2)), x.2.2.2.2.2.2.1, x.2.2.2.2.2.2.2)
     else
      let p23 := fnX4_sum x.2.2.2.1.2.2.2.2.1 p1
      let p24 := fnX4_field a0 (24 : Int32) (2 : Int32)
      if p24 = (0 : Int32) then
       (x.1, x.2.1, x.2.2.1, x.2.2.2.1, x.2.2.2.2.1, (x.2.2.2.1.2.2.2.1, p23, (if x.2.2.2.2.1.2.2 < x.2.2.2.1.2.2.2.2.2 then x.2.2.2.1.2.2.2.2.2 else x.2.2.2.2.1.2.2)), x.2.2.2.2.2.2.1, x.2.2.2.2.2.2.2)
      else
       let p26 := fnX4_sum p23 (x.2.2.1 (p24).toNatClampNeg)
       (x.1, x.2.1, x.2.2.1, x.2.2.2.1, x.2.2.2.2.1, (x.2.2.2.1.2.2.2.1, p26, (if x.2.2.2.2.1.2.2 < x.2.2.2.1.2.2.2.2.2 then x.2.2.2.1.2.2.2.2.2 else x.2.2.2.2.1.2.2)), x.2.2.2.2.2.2.1, x.2.2.2.2.2.2.2)
abbrev ivX4_startAddressP (z : TR) : Prop := iR z
set_option maxRecDepth 100000 in
set_option maxHeartbeats 4000000 in
theorem ivX4_startAddress (x : TR) (a0 : Int64) (hI : iR x) : ivX4_startAddressP (fnX4_startAddress x a0) := by
  unfold fnX4_startAddress
  try dsimp only
  have j1 : i12 (fnX4_field a0 (0 : Int32) (12 : Int32)) := (f12X a0 (0 : Int32))
  generalize fnX4_field a0 (0 : Int32) (12 : Int32) = p1 at j1 ⊢
  refine iteI (fun h2 => ?_) (fun h2 => ?_)
  · have j3 : i2 (fnX4_field a0 (24 : Int32) (2 : Int32)) := (f2X a0 (24 : Int32))
    generalize fnX4_field a0 (24 : Int32) (2 : Int32) = p3 at j3 ⊢
    refine iteI (fun h4 => ?_) (fun h4 => ?_)
    · exact ⟨hI.1, hI.2.1, hI.2.2.1, hI.2.2.2.1, hI.2.2.2.2.1, ⟨hI.2.2.2.2.1.1, j1, hI.2.2.2.2.1.2.2⟩, hI.2.2.2.2.2.2.1, hI.2.2.2.2.2.2.2⟩
    · have j5 : i12 (fnX4_sum p1 (x.2.2.1 (p3).toNatClampNeg)) := (sumX p1 (x.2.2.1 (p3).toNatClampNeg))
      generalize fnX4_sum p1 (x.2.2.1 (p3).toNatClampNeg) = p5 at j5 ⊢
      exact ⟨hI.1, hI.2.1, hI.2.2.1, hI.2.2.2.1, hI.2.2.2.2.1, ⟨hI.2.2.2.2.1.1, j5, hI.2.2.2.2.1.2.2⟩, hI.2.2.2.2.2.2.1, hI.2.2.2.2.2.2.2⟩
  · have j6 : i2 (fnX4_field a0 (27 : Int32) (2 : Int32)) := (f2X a0 (27 : Int32))
    generalize fnX4_field a0 (27 : Int32) (2 : Int32) = p6 at j6 ⊢
    refine iteI (fun h7 => ?_) (fun h7 => ?_)
    · have j8 : i12 (fnX4_sum x.2.2.2.1.1.2.1 p1) := (sumX x.2.2.2.1.1.2.1 p1)
      generalize fnX4_sum x.2.2.2.1.1.2.1 p1 = p8 at j8 ⊢
      have j9 : i2 (fnX4_field a0 (24 : Int32) (2 : Int32)) := (f2X a0 (24 : Int32))
      generalize fnX4_field a0 (24 : Int32) (2 : Int32) = p9 at j9 ⊢
      refine iteI (fun h10 => ?_) (fun h10 => ?_)
      · exact ⟨hI.1, hI.2.1, hI.2.2.1, hI.2.2.2.1, hI.2.2.2.2.1, ⟨hI.2.2.2.1.1.1, j8, (mx3 hI.2.2.2.2.1.2.2 hI.2.2.2.1.1.2.2)⟩, hI.2.2.2.2.2.2.1, hI.2.2.2.2.2.2.2⟩
      · have j11 : i12 (fnX4_sum p8 (x.2.2.1 (p9).toNatClampNeg)) := (sumX p8 (x.2.2.1 (p9).toNatClampNeg))
        generalize fnX4_sum p8 (x.2.2.1 (p9).toNatClampNeg) = p11 at j11 ⊢
        exact ⟨hI.1, hI.2.1, hI.2.2.1, hI.2.2.2.1, hI.2.2.2.2.1, ⟨hI.2.2.2.1.1.1, j11, (mx3 hI.2.2.2.2.1.2.2 hI.2.2.2.1.1.2.2)⟩, hI.2.2.2.2.2.2.1, hI.2.2.2.2.2.2.2⟩
    · refine iteI (fun h12 => ?_) (fun h12 => ?_)
      · have j13 : i12 (fnX4_sum x.2.2.2.1.2.1.2.1 p1) := (sumX x.2.2.2.1.2.1.2.1 p1)
        generalize fnX4_sum x.2.2.2.1.2.1.2.1 p1 = p13 at j13 ⊢
        have j14 : i2 (fnX4_field a0 (24 : Int32) (2 : Int32)) := (f2X a0 (24 : Int32))
        generalize fnX4_field a0 (24 : Int32) (2 : Int32) = p14 at j14 ⊢
        refine iteI (fun h15 => ?_) (fun h15 => ?_)
        · exact ⟨hI.1, hI.2.1, hI.2.2.1, hI.2.2.2.1, hI.2.2.2.2.1, ⟨hI.2.2.2.1.2.1.1, j13, (mx3 hI.2.2.2.2.1.2.2 hI.2.2.2.1.2.1.2.2)⟩, hI.2.2.2.2.2.2.1, hI.2.2.2.2.2.2.2⟩
        · have j16 : i12 (fnX4_sum p13 (x.2.2.1 (p14).toNatClampNeg)) := (sumX p13 (x.2.2.1 (p14).toNatClampNeg))
          generalize fnX4_sum p13 (x.2.2.1 (p14).toNatClampNeg) = p16 at j16 ⊢
          exact ⟨hI.1, hI.2.1, hI.2.2.1, hI.2.2.2.1, hI.2.2.2.2.1, ⟨hI.2.2.2.1.2.1.1, j16, (mx3 hI.2.2.2.2.1.2.2 hI.2.2.2.1.2.1.2.2)⟩, hI.2.2.2.2.2.2.1, hI.2.2.2.2.2.2.2⟩
      · refine iteI (fun h17 => ?_) (fun h17 => ?_)
        · have j18 : i12 (fnX4_sum x.2.2.2.1.2.2.1.2.1 p1) := (sumX x.2.2.2.1.2.2.1.2.1 p1)
          generalize fnX4_sum x.2.2.2.1.2.2.1.2.1 p1 = p18 at j18 ⊢
          have j19 : i2 (fnX4_field a0 (24 : Int32) (2 : Int32)) := (f2X a0 (24 : Int32))
          generalize fnX4_field a0 (24 : Int32) (2 : Int32) = p19 at j19 ⊢
          refine iteI (fun h20 => ?_) (fun h20 => ?_)
          · exact ⟨hI.1, hI.2.1, hI.2.2.1, hI.2.2.2.1, hI.2.2.2.2.1, ⟨hI.2.2.2.1.2.2.1.1, j18, (mx3 hI.2.2.2.2.1.2.2 hI.2.2.2.1.2.2.1.2.2)⟩, hI.2.2.2.2.2.2.1, hI.2.2.2.2.2.2.2⟩
          · have j21 : i12 (fnX4_sum p18 (x.2.2.1 (p19).toNatClampNeg)) := (sumX p18 (x.2.2.1 (p19).toNatClampNeg))
            generalize fnX4_sum p18 (x.2.2.1 (p19).toNatClampNeg) = p21 at j21 ⊢
            exact ⟨hI.1, hI.2.1, hI.2.2.1, hI.2.2.2.1, hI.2.2.2.2.1, ⟨hI.2.2.2.1.2.2.1.1, j21, (mx3 hI.2.2.2.2.1.2.2 hI.2.2.2.1.2.2.1.2.2)⟩, hI.2.2.2.2.2.2.1, hI.2.2.2.2.2.2.2⟩
        · have j23 : i12 (fnX4_sum x.2.2.2.1.2.2.2.2.1 p1) := (sumX x.2.2.2.1.2.2.2.2.1 p1)
          generalize fnX4_sum x.2.2.2.1.2.2.2.2.1 p1 = p23 at j23 ⊢
          have j24 : i2 (fnX4_field a0 (24 : Int32) (2 : Int32)) := (f2X a0 (24 : Int32))
          generalize fnX4_field a0 (24 : Int32) (2 : Int32) = p24 at j24 ⊢
          refine iteI (fun h25 => ?_) (fun h25 => ?_)
          · exact ⟨hI.1, hI.2.1, hI.2.2.1, hI.2.2.2.1, hI.2.2.2.2.1, ⟨hI.2.2.2.1.2.2.2.1, j23, (mx3 hI.2.2.2.2.1.2.2 hI.2.2.2.1.2.2.2.2.2)⟩, hI.2.2.2.2.2.2.1, hI.2.2.2.2.2.2.2⟩
          · have j26 : i12 (fnX4_sum p23 (x.2.2.1 (p24).toNatClampNeg)) := (sumX p23 (x.2.2.1 (p24).toNatClampNeg))
            generalize fnX4_sum p23 (x.2.2.1 (p24).toNatClampNeg) = p26 at j26 ⊢
            exact ⟨hI.1, hI.2.1, hI.2.2.1, hI.2.2.2.1, hI.2.2.2.2.1, ⟨hI.2.2.2.1.2.2.2.1, j26, (mx3 hI.2.2.2.2.1.2.2 hI.2.2.2.1.2.2.2.2.2)⟩, hI.2.2.2.2.2.2.1, hI.2.2.2.2.2.2.2⟩
set_option maxRecDepth 100000 in
set_option maxHeartbeats 4000000 in
theorem okX4_startAddress (l : Launch) (D : va_G) (cI cJ cP : ClassId) (ad : Nat → Nat) (sz : Nat) (x : TR) (a0 : Int64) (hI : iR x) : Met l yX4_startAddress (Cond.code yX4_startAddress cX4_startAddress 5 none :: gG) { frames := 1, cells := 0, slots := 0, locals := 23 } (va_Pc [.ref (ad 0), .long a0] (PRE D (tz cI cJ cP) sz (wR cI cJ cP ad x))) (va_Qv (fun (u : TR) => u = fnX4_startAddress x a0) (AT D (tz cI cJ cP) (va_A (wR cI cJ cP ad x) sz) (fun (u : TR) => (wR cI cJ cP ad u))) (va_A (wR cI cJ cP ad x) sz)) 0 0 (va_A (wR cI cJ cP ad x) sz) := by
  refine mo (QA := fun A => va_Qv (fun (u : TR) => u = fnX4_startAddress x a0) (AT D (tz cI cJ cP) A (fun (u : TR) => (wR cI cJ cP ad u))) A) (by decide) (Nat.le_of_ble_eq_true rfl) ?_
  intro p e s m below meth c A ls H hx hb hr hml hown hG hlocks hnm hA hS hP hK hD hl hN
  have hown : s.vm.findClass RX4 = some m.cls := hown
  have hl : lv_has ls 5 [(0, .ref (ad 0)), (1, .long a0)] := hl
  refine lv_lload_n hx hb dX4_startAddress_0 rfl (lv_at hl 1 rfl) ?_
  refine lv_iconst (v := 0) hx hb dX4_startAddress_1 (by decide) ?_
  refine lv_bipush (v := 12) hx hb dX4_startAddress_2 (by decide) ?_
  refine k0Si (As := [.long (a0), .int ((0 : Int32)), .int ((12 : Int32))]) (rest := []) hx hb hml hown hG hl (okX4_field l D cI cJ cP  H.size a0 (0 : Int32) (12 : Int32) ) (cS 3 hG kw4 kw135 kw6 kw5 hdX4_field ⟨by decide, by decide⟩) hK hP hD hS hA hN rfl rfl (Nat.le_of_ble_eq_true rfl) dX4_startAddress_4 ⟨Nat.zero_le _, Nat.zero_le _⟩ (fun r1 q1 H locs hP hD hS => ?_)
  have j1 : i12 r1 := by rw [q1]; exact (f12X a0 (0 : Int32))
  refine lv_istore_n (lv' := [(3, .int (r1)), (0, .ref (ad 0)), (1, .long (a0))]) hx hb dX4_startAddress_7 rfl hl (by decide) rfl (fun ls hl => ?_)
  refine lv_lload_n hx hb dX4_startAddress_8 rfl (lv_at hl 2 rfl) ?_
  refine lv_ldc2 (v := 536870912) hx hb hown (hG _ kw158) dX4_startAddress_9 ?_
  refine lv_land hx hb dX4_startAddress_12 ?_
  refine lv_lconst (v := 0) hx hb dX4_startAddress_13 (by decide) ?_
  refine lq_eq (tgt := 85) hx hb dX4_startAddress_14 dX4_startAddress_15 (by decide) (fun h2 => ?_) (fun h2 => ?_)
  · refine lv_aload_n hx hb dX4_startAddress_85 rfl (lv_at hl 1 rfl) ?_
    refine va_get (D := D) (ci := 4) (v := .ref (ad 12)) hx hb hG inX4 hown hK hP 0 rfl rfl 6 (by decide) (hG _ kw124) (fun _ h9 => h9) rfl dX4_startAddress_86 ?_
    refine lv_aload_n hx hb dX4_startAddress_89 rfl (lv_at hl 1 rfl) ?_
    refine va_get (D := D) (ci := 4) (v := .ref (ad 19)) hx hb hG inX4 hown hK hP 0 rfl rfl 5 (by decide) (hG _ kw87) (fun _ h9 => h9) rfl dX4_startAddress_90 ?_
    refine va_get (D := D) (ci := 2) (v := .int (x.2.2.2.2.1.1)) hx hb hG inX2 hown hK hP 19 rfl rfl 0 (by decide) (hG _ kw141) (fun _ h9 => h9) rfl dX4_startAddress_93 ?_
    refine pu (D := D) (ci := 2) (v := .int (x.2.2.2.2.1.1)) (ty := .int) (W' := (wR cI cJ cP ad (x.1, x.2.1, x.2.2.1, x.2.2.2.1, x.2.2.2.2.1, (x.2.2.2.2.1.1, x.2.2.2.2.2.1.2.1, x.2.2.2.2.2.1.2.2), x.2.2.2.2.2.2.1, x.2.2.2.2.2.2.2))) hx hb hG inX2 tyX2 tyokX2 nmX2 hown hK hP hD hS 12 rfl rfl 0 (by decide) (hG _ kw141) (fun _ h9 => h9) rfl (by decide +kernel) rfl rfl (Nat.le_of_ble_eq_true rfl) dX4_startAddress_96 rfl (fun H locs hP hD hS => ?_)
    refine lv_aload_n hx hb dX4_startAddress_99 rfl (lv_at hl 1 rfl) ?_
    refine va_get (D := D) (ci := 4) (v := .ref (ad 12)) hx hb hG inX4 hown hK hP 0 rfl rfl 6 (by decide) (hG _ kw124) (fun _ h9 => h9) rfl dX4_startAddress_100 ?_
    refine lv_iload_n hx hb dX4_startAddress_103 rfl (lv_at hl 0 rfl) ?_
    refine pu (D := D) (ci := 2) (v := .int (r1)) (ty := .int) (W' := (wR cI cJ cP ad (x.1, x.2.1, x.2.2.1, x.2.2.2.1, x.2.2.2.2.1, (x.2.2.2.2.1.1, r1, x.2.2.2.2.2.1.2.2), x.2.2.2.2.2.2.1, x.2.2.2.2.2.2.2))) hx hb hG inX2 tyX2 tyokX2 nmX2 hown hK hP hD hS 12 rfl rfl 1 (by decide) (hG _ kw88) (fun _ h9 => h9) rfl (by decide +kernel) rfl rfl (Nat.le_of_ble_eq_true rfl) dX4_startAddress_104 rfl (fun H locs hP hD hS => ?_)
    refine lv_aload_n hx hb dX4_startAddress_107 rfl (lv_at hl 1 rfl) ?_
    refine va_get (D := D) (ci := 4) (v := .ref (ad 12)) hx hb hG inX4 hown hK hP 0 rfl rfl 6 (by decide) (hG _ kw124) (fun _ h9 => h9) rfl dX4_startAddress_108 ?_
    refine lv_aload_n hx hb dX4_startAddress_111 rfl (lv_at hl 1 rfl) ?_
    refine va_get (D := D) (ci := 4) (v := .ref (ad 19)) hx hb hG inX4 hown hK hP 0 rfl rfl 5 (by decide) (hG _ kw87) (fun _ h9 => h9) rfl dX4_startAddress_112 ?_
    refine va_get (D := D) (ci := 2) (v := .int (x.2.2.2.2.1.2.2)) hx hb hG inX2 hown hK hP 19 rfl rfl 2 (by decide) (hG _ kw119) (fun _ h9 => h9) rfl dX4_startAddress_115 ?_
    refine pu (D := D) (ci := 2) (v := .int (x.2.2.2.2.1.2.2)) (ty := .int) (W' := (wR cI cJ cP ad (x.1, x.2.1, x.2.2.1, x.2.2.2.1, x.2.2.2.2.1, (x.2.2.2.2.1.1, r1, x.2.2.2.2.1.2.2), x.2.2.2.2.2.2.1, x.2.2.2.2.2.2.2))) hx hb hG inX2 tyX2 tyokX2 nmX2 hown hK hP hD hS 12 rfl rfl 2 (by decide) (hG _ kw119) (fun _ h9 => h9) rfl (by decide +kernel) rfl rfl (Nat.le_of_ble_eq_true rfl) dX4_startAddress_118 rfl (fun H locs hP hD hS => ?_)
    refine lv_lload_n hx hb dX4_startAddress_121 rfl (lv_at hl 2 rfl) ?_
    refine lv_bipush (v := 24) hx hb dX4_startAddress_122 (by decide) ?_
    refine lv_iconst (v := 2) hx hb dX4_startAddress_124 (by decide) ?_
    refine k0Si (As := [.long (a0), .int ((24 : Int32)), .int ((2 : Int32))]) (rest := []) hx hb hml hown hG hl (okX4_field l D cI cJ cP  H.size a0 (24 : Int32) (2 : Int32) ) (cS 3 hG kw4 kw135 kw6 kw5 hdX4_field ⟨by decide, by decide⟩) hK hP hD hS hA hN rfl rfl (Nat.le_of_ble_eq_true rfl) dX4_startAddress_125 ⟨Nat.zero_le _, Nat.zero_le _⟩ (fun r3 q3 H locs hP hD hS => ?_)
    have j3 : i2 r3 := by rw [q3]; exact (f2X a0 (24 : Int32))
    refine lv_istore (lv' := [(4, .int (r3)), (3, .int (r1)), (0, .ref (ad 0)), (1, .long (a0))]) hx hb dX4_startAddress_128 hl (by decide) rfl (fun ls hl => ?_)
    refine lv_iload hx hb dX4_startAddress_130 (lv_at hl 0 rfl) ?_
    refine lv_if_eq (tgt := 159) hx hb dX4_startAddress_132 (by decide) (fun h4 => ?_) (fun h4 => ?_)
    · exact retv (u := (x.1, x.2.1, x.2.2.1, x.2.2.2.1, x.2.2.2.2.1, (x.2.2.2.2.1.1, r1, x.2.2.2.2.1.2.2), x.2.2.2.2.2.2.1, x.2.2.2.2.2.2.2)) hx hb hr hlocks hK hP hD hS dX4_startAddress_159 (by unfold fnX4_startAddress; rw [← q1]; (try dsimp only); rw [if_pos h2]; rw [← q3]; (try dsimp only); rw [if_pos h4]; (try exact rfl))
    · refine lv_aload_n hx hb dX4_startAddress_135 rfl (lv_at hl 2 rfl) ?_
      refine va_get (D := D) (ci := 4) (v := .ref (ad 12)) hx hb hG inX4 hown hK hP 0 rfl rfl 6 (by decide) (hG _ kw124) (fun _ h9 => h9) rfl dX4_startAddress_136 ?_
      refine lv_aload_n hx hb dX4_startAddress_139 rfl (lv_at hl 2 rfl) ?_
      refine va_get (D := D) (ci := 4) (v := .ref (ad 12)) hx hb hG inX4 hown hK hP 0 rfl rfl 6 (by decide) (hG _ kw124) (fun _ h9 => h9) rfl dX4_startAddress_140 ?_
      refine va_get (D := D) (ci := 2) (v := .int (r1)) hx hb hG inX2 hown hK hP 12 rfl rfl 1 (by decide) (hG _ kw88) (fun _ h9 => h9) rfl dX4_startAddress_143 ?_
      refine lv_aload_n hx hb dX4_startAddress_146 rfl (lv_at hl 2 rfl) ?_
      refine va_get (D := D) (ci := 4) (v := .ref (ad 13)) hx hb hG inX4 hown hK hP 0 rfl rfl 3 (by decide) (hG _ kw134) (fun _ h9 => h9) rfl dX4_startAddress_147 ?_
      refine lv_iload hx hb dX4_startAddress_150 (lv_at hl 0 rfl) ?_
      refine gi (D := D) (j := (r3).toNatClampNeg) (f := x.2.2.1) hx hb hK hP 13 0 rfl rfl (in2 j3) rfl dX4_startAddress_152 ?_
      refine k0Si (As := [.int (r1), .int ((x.2.2.1 (r3).toNatClampNeg))]) (rest := [.ref (ad 12)]) hx hb hml hown hG hl (okX4_sum l D cI cJ cP  H.size r1 (x.2.2.1 (r3).toNatClampNeg) ) (cS 2 hG kw34 kw89 kw35 kw5 hdX4_sum ⟨by decide, by decide⟩) hK hP hD hS hA hN rfl rfl (Nat.le_of_ble_eq_true rfl) dX4_startAddress_153 ⟨Nat.zero_le _, Nat.zero_le _⟩ (fun r5 q5 H locs hP hD hS => ?_)
      have j5 : i12 r5 := by rw [q5]; exact (sumX r1 (x.2.2.1 (r3).toNatClampNeg))
      refine pu (D := D) (ci := 2) (v := .int (r5)) (ty := .int) (W' := (wR cI cJ cP ad (x.1, x.2.1, x.2.2.1, x.2.2.2.1, x.2.2.2.2.1, (x.2.2.2.2.1.1, r5, x.2.2.2.2.1.2.2), x.2.2.2.2.2.2.1, x.2.2.2.2.2.2.2))) hx hb hG inX2 tyX2 tyokX2 nmX2 hown hK hP hD hS 12 rfl rfl 1 (by decide) (hG _ kw88) (fun _ h9 => h9) rfl (by decide +kernel) rfl rfl (Nat.le_of_ble_eq_true rfl) dX4_startAddress_156 rfl (fun H locs hP hD hS => ?_)
      exact retv (u := (x.1, x.2.1, x.2.2.1, x.2.2.2.1, x.2.2.2.2.1, (x.2.2.2.2.1.1, r5, x.2.2.2.2.1.2.2), x.2.2.2.2.2.2.1, x.2.2.2.2.2.2.2)) hx hb hr hlocks hK hP hD hS dX4_startAddress_159 (by unfold fnX4_startAddress; rw [← q1]; (try dsimp only); rw [if_pos h2]; rw [← q3]; (try dsimp only); rw [if_neg h4]; rw [← q5]; (try dsimp only); (try exact rfl))
  · refine lv_aload_n hx hb dX4_startAddress_18 rfl (lv_at hl 1 rfl) ?_
    refine va_get (D := D) (ci := 4) (v := .ref (ad 14)) hx hb hG inX4 hown hK hP 0 rfl rfl 4 (by decide) (hG _ kw149) (fun _ h9 => h9) rfl dX4_startAddress_19 ?_
    refine lv_lload_n hx hb dX4_startAddress_22 rfl (lv_at hl 2 rfl) ?_
    refine lv_bipush (v := 27) hx hb dX4_startAddress_23 (by decide) ?_
    refine lv_iconst (v := 2) hx hb dX4_startAddress_25 (by decide) ?_
    refine k0Si (As := [.long (a0), .int ((27 : Int32)), .int ((2 : Int32))]) (rest := [.ref (ad 14)]) hx hb hml hown hG hl (okX4_field l D cI cJ cP  H.size a0 (27 : Int32) (2 : Int32) ) (cS 3 hG kw4 kw135 kw6 kw5 hdX4_field ⟨by decide, by decide⟩) hK hP hD hS hA hN rfl rfl (Nat.le_of_ble_eq_true rfl) dX4_startAddress_26 ⟨Nat.zero_le _, Nat.zero_le _⟩ (fun r6 q6 H locs hP hD hS => ?_)
    have j6 : i2 r6 := by rw [q6]; exact (f2X a0 (27 : Int32))
    by_cases h7 : r6 = (0 : Int32)
    · refine gq (D := D) (j := 0) (x := ad 15) hx hb hK hP 14 2 rfl rfl (by rw [h7]; exact inL (by decide)) (by rw [h7]; decide) rfl dX4_startAddress_29 ?_
      refine lv_astore (lv' := [(4, .ref (ad 15)), (3, .int (r1)), (0, .ref (ad 0)), (1, .long (a0))]) hx hb dX4_startAddress_30 hl (by decide) rfl (fun ls hl => ?_)
      refine lv_aload_n hx hb dX4_startAddress_32 rfl (lv_at hl 2 rfl) ?_
      refine va_get (D := D) (ci := 4) (v := .ref (ad 12)) hx hb hG inX4 hown hK hP 0 rfl rfl 6 (by decide) (hG _ kw124) (fun _ h9 => h9) rfl dX4_startAddress_33 ?_
      refine lv_aload hx hb dX4_startAddress_36 (lv_at hl 0 rfl) ?_
      refine va_get (D := D) (ci := 2) (v := .int (x.2.2.2.1.1.1)) hx hb hG inX2 hown hK hP 15 rfl rfl 0 (by decide) (hG _ kw141) (fun _ h9 => h9) rfl dX4_startAddress_38 ?_
      refine pu (D := D) (ci := 2) (v := .int (x.2.2.2.1.1.1)) (ty := .int) (W' := (wR cI cJ cP ad (x.1, x.2.1, x.2.2.1, x.2.2.2.1, x.2.2.2.2.1, (x.2.2.2.1.1.1, x.2.2.2.2.2.1.2.1, x.2.2.2.2.2.1.2.2), x.2.2.2.2.2.2.1, x.2.2.2.2.2.2.2))) hx hb hG inX2 tyX2 tyokX2 nmX2 hown hK hP hD hS 12 rfl rfl 0 (by decide) (hG _ kw141) (fun _ h9 => h9) rfl (by decide +kernel) rfl rfl (Nat.le_of_ble_eq_true rfl) dX4_startAddress_41 rfl (fun H locs hP hD hS => ?_)
      refine lv_aload_n hx hb dX4_startAddress_44 rfl (lv_at hl 2 rfl) ?_
      refine va_get (D := D) (ci := 4) (v := .ref (ad 12)) hx hb hG inX4 hown hK hP 0 rfl rfl 6 (by decide) (hG _ kw124) (fun _ h9 => h9) rfl dX4_startAddress_45 ?_
      refine lv_aload hx hb dX4_startAddress_48 (lv_at hl 0 rfl) ?_
      refine va_get (D := D) (ci := 2) (v := .int (x.2.2.2.1.1.2.1)) hx hb hG inX2 hown hK hP 15 rfl rfl 1 (by decide) (hG _ kw88) (fun _ h9 => h9) rfl dX4_startAddress_50 ?_
      refine lv_iload_n hx hb dX4_startAddress_53 rfl (lv_at hl 1 rfl) ?_
      refine k0Si (As := [.int (x.2.2.2.1.1.2.1), .int (r1)]) (rest := [.ref (ad 12)]) hx hb hml hown hG hl (okX4_sum l D cI cJ cP  H.size x.2.2.2.1.1.2.1 r1 ) (cS 2 hG kw34 kw89 kw35 kw5 hdX4_sum ⟨by decide, by decide⟩) hK hP hD hS hA hN rfl rfl (Nat.le_of_ble_eq_true rfl) dX4_startAddress_54 ⟨Nat.zero_le _, Nat.zero_le _⟩ (fun r8 q8 H locs hP hD hS => ?_)
      have j8 : i12 r8 := by rw [q8]; exact (sumX x.2.2.2.1.1.2.1 r1)
      refine pu (D := D) (ci := 2) (v := .int (r8)) (ty := .int) (W' := (wR cI cJ cP ad (x.1, x.2.1, x.2.2.1, x.2.2.2.1, x.2.2.2.2.1, (x.2.2.2.1.1.1, r8, x.2.2.2.2.2.1.2.2), x.2.2.2.2.2.2.1, x.2.2.2.2.2.2.2))) hx hb hG inX2 tyX2 tyokX2 nmX2 hown hK hP hD hS 12 rfl rfl 1 (by decide) (hG _ kw88) (fun _ h9 => h9) rfl (by decide +kernel) rfl rfl (Nat.le_of_ble_eq_true rfl) dX4_startAddress_57 rfl (fun H locs hP hD hS => ?_)
      refine lv_aload_n hx hb dX4_startAddress_60 rfl (lv_at hl 2 rfl) ?_
      refine va_get (D := D) (ci := 4) (v := .ref (ad 12)) hx hb hG inX4 hown hK hP 0 rfl rfl 6 (by decide) (hG _ kw124) (fun _ h9 => h9) rfl dX4_startAddress_61 ?_
      refine lv_aload_n hx hb dX4_startAddress_64 rfl (lv_at hl 2 rfl) ?_
      refine va_get (D := D) (ci := 4) (v := .ref (ad 19)) hx hb hG inX4 hown hK hP 0 rfl rfl 5 (by decide) (hG _ kw87) (fun _ h9 => h9) rfl dX4_startAddress_65 ?_
      refine va_get (D := D) (ci := 2) (v := .int (x.2.2.2.2.1.2.2)) hx hb hG inX2 hown hK hP 19 rfl rfl 2 (by decide) (hG _ kw119) (fun _ h9 => h9) rfl dX4_startAddress_68 ?_
      refine lv_aload hx hb dX4_startAddress_71 (lv_at hl 0 rfl) ?_
      refine va_get (D := D) (ci := 2) (v := .int (x.2.2.2.1.1.2.2)) hx hb hG inX2 hown hK hP 15 rfl rfl 2 (by decide) (hG _ kw119) (fun _ h9 => h9) rfl dX4_startAddress_73 ?_
      refine va_mmax hx hb (hml.trans hl.1.symm) hown (hG _ kw150) (hG _ kw151) (hG _ kw152) (hG _ kw153) (by decide) (Nat.le_of_ble_eq_true rfl) (Nat.zero_le _) (Nat.zero_le _) dX4_startAddress_76 ?_
      refine pu (D := D) (ci := 2) (v := .int ((if x.2.2.2.2.1.2.2 < x.2.2.2.1.1.2.2 then x.2.2.2.1.1.2.2 else x.2.2.2.2.1.2.2))) (ty := .int) (W' := (wR cI cJ cP ad (x.1, x.2.1, x.2.2.1, x.2.2.2.1, x.2.2.2.2.1, (x.2.2.2.1.1.1, r8, (if x.2.2.2.2.1.2.2 < x.2.2.2.1.1.2.2 then x.2.2.2.1.1.2.2 else x.2.2.2.2.1.2.2)), x.2.2.2.2.2.2.1, x.2.2.2.2.2.2.2))) hx hb hG inX2 tyX2 tyokX2 nmX2 hown hK hP hD hS 12 rfl rfl 2 (by decide) (hG _ kw119) (fun _ h9 => h9) rfl (by decide +kernel) rfl rfl (Nat.le_of_ble_eq_true rfl) dX4_startAddress_79 rfl (fun H locs hP hD hS => ?_)
      refine lv_goto (tgt := 121) hx hb dX4_startAddress_82 (by decide) ?_
      refine lv_lload_n hx hb dX4_startAddress_121 rfl (lv_at hl 3 rfl) ?_
      refine lv_bipush (v := 24) hx hb dX4_startAddress_122 (by decide) ?_
      refine lv_iconst (v := 2) hx hb dX4_startAddress_124 (by decide) ?_
      refine k0Si (As := [.long (a0), .int ((24 : Int32)), .int ((2 : Int32))]) (rest := []) hx hb hml hown hG hl (okX4_field l D cI cJ cP  H.size a0 (24 : Int32) (2 : Int32) ) (cS 3 hG kw4 kw135 kw6 kw5 hdX4_field ⟨by decide, by decide⟩) hK hP hD hS hA hN rfl rfl (Nat.le_of_ble_eq_true rfl) dX4_startAddress_125 ⟨Nat.zero_le _, Nat.zero_le _⟩ (fun r9 q9 H locs hP hD hS => ?_)
      have j9 : i2 r9 := by rw [q9]; exact (f2X a0 (24 : Int32))
      refine lv_istore (lv' := [(4, .int (r9)), (3, .int (r1)), (0, .ref (ad 0)), (1, .long (a0))]) hx hb dX4_startAddress_128 hl (by decide) rfl (fun ls hl => ?_)
      refine lv_iload hx hb dX4_startAddress_130 (lv_at hl 0 rfl) ?_
      refine lv_if_eq (tgt := 159) hx hb dX4_startAddress_132 (by decide) (fun h10 => ?_) (fun h10 => ?_)
      · exact retv (u := (x.1, x.2.1, x.2.2.1, x.2.2.2.1, x.2.2.2.2.1, (x.2.2.2.1.1.1, r8, (if x.2.2.2.2.1.2.2 < x.2.2.2.1.1.2.2 then x.2.2.2.1.1.2.2 else x.2.2.2.2.1.2.2)), x.2.2.2.2.2.2.1, x.2.2.2.2.2.2.2)) hx hb hr hlocks hK hP hD hS dX4_startAddress_159 (by unfold fnX4_startAddress; rw [← q1]; (try dsimp only); rw [if_neg h2]; rw [← q6]; (try dsimp only); rw [if_pos h7]; rw [← q8]; (try dsimp only); rw [← q9]; (try dsimp only); rw [if_pos h10]; (try exact rfl))
      · refine lv_aload_n hx hb dX4_startAddress_135 rfl (lv_at hl 2 rfl) ?_
        refine va_get (D := D) (ci := 4) (v := .ref (ad 12)) hx hb hG inX4 hown hK hP 0 rfl rfl 6 (by decide) (hG _ kw124) (fun _ h9 => h9) rfl dX4_startAddress_136 ?_
        refine lv_aload_n hx hb dX4_startAddress_139 rfl (lv_at hl 2 rfl) ?_
        refine va_get (D := D) (ci := 4) (v := .ref (ad 12)) hx hb hG inX4 hown hK hP 0 rfl rfl 6 (by decide) (hG _ kw124) (fun _ h9 => h9) rfl dX4_startAddress_140 ?_
        refine va_get (D := D) (ci := 2) (v := .int (r8)) hx hb hG inX2 hown hK hP 12 rfl rfl 1 (by decide) (hG _ kw88) (fun _ h9 => h9) rfl dX4_startAddress_143 ?_
        refine lv_aload_n hx hb dX4_startAddress_146 rfl (lv_at hl 2 rfl) ?_
        refine va_get (D := D) (ci := 4) (v := .ref (ad 13)) hx hb hG inX4 hown hK hP 0 rfl rfl 3 (by decide) (hG _ kw134) (fun _ h9 => h9) rfl dX4_startAddress_147 ?_
        refine lv_iload hx hb dX4_startAddress_150 (lv_at hl 0 rfl) ?_
        refine gi (D := D) (j := (r9).toNatClampNeg) (f := x.2.2.1) hx hb hK hP 13 0 rfl rfl (in2 j9) rfl dX4_startAddress_152 ?_
        refine k0Si (As := [.int (r8), .int ((x.2.2.1 (r9).toNatClampNeg))]) (rest := [.ref (ad 12)]) hx hb hml hown hG hl (okX4_sum l D cI cJ cP  H.size r8 (x.2.2.1 (r9).toNatClampNeg) ) (cS 2 hG kw34 kw89 kw35 kw5 hdX4_sum ⟨by decide, by decide⟩) hK hP hD hS hA hN rfl rfl (Nat.le_of_ble_eq_true rfl) dX4_startAddress_153 ⟨Nat.zero_le _, Nat.zero_le _⟩ (fun r11 q11 H locs hP hD hS => ?_)
        have j11 : i12 r11 := by rw [q11]; exact (sumX r8 (x.2.2.1 (r9).toNatClampNeg))
        refine pu (D := D) (ci := 2) (v := .int (r11)) (ty := .int) (W' := (wR cI cJ cP ad (x.1, x.2.1, x.2.2.1, x.2.2.2.1, x.2.2.2.2.1, (x.2.2.2.1.1.1, r11, (if x.2.2.2.2.1.2.2 < x.2.2.2.1.1.2.2 then x.2.2.2.1.1.2.2 else x.2.2.2.2.1.2.2)), x.2.2.2.2.2.2.1, x.2.2.2.2.2.2.2))) hx hb hG inX2 tyX2 tyokX2 nmX2 hown hK hP hD hS 12 rfl rfl 1 (by decide) (hG _ kw88) (fun _ h9 => h9) rfl (by decide +kernel) rfl rfl (Nat.le_of_ble_eq_true rfl) dX4_startAddress_156 rfl (fun H locs hP hD hS => ?_)
        exact retv (u := (x.1, x.2.1, x.2.2.1, x.2.2.2.1, x.2.2.2.2.1, (x.2.2.2.1.1.1, r11, (if x.2.2.2.2.1.2.2 < x.2.2.2.1.1.2.2 then x.2.2.2.1.1.2.2 else x.2.2.2.2.1.2.2)), x.2.2.2.2.2.2.1, x.2.2.2.2.2.2.2)) hx hb hr hlocks hK hP hD hS dX4_startAddress_159 (by unfold fnX4_startAddress; rw [← q1]; (try dsimp only); rw [if_neg h2]; rw [← q6]; (try dsimp only); rw [if_pos h7]; rw [← q8]; (try dsimp only); rw [← q9]; (try dsimp only); rw [if_neg h10]; rw [← q11]; (try dsimp only); (try exact rfl))
    by_cases h12 : r6 = (1 : Int32)
    · refine gq (D := D) (j := 1) (x := ad 16) hx hb hK hP 14 2 rfl rfl (by rw [h12]; exact inL (by decide)) (by rw [h12]; decide) rfl dX4_startAddress_29 ?_
      refine lv_astore (lv' := [(4, .ref (ad 16)), (3, .int (r1)), (0, .ref (ad 0)), (1, .long (a0))]) hx hb dX4_startAddress_30 hl (by decide) rfl (fun ls hl => ?_)
      refine lv_aload_n hx hb dX4_startAddress_32 rfl (lv_at hl 2 rfl) ?_
      refine va_get (D := D) (ci := 4) (v := .ref (ad 12)) hx hb hG inX4 hown hK hP 0 rfl rfl 6 (by decide) (hG _ kw124) (fun _ h9 => h9) rfl dX4_startAddress_33 ?_
      refine lv_aload hx hb dX4_startAddress_36 (lv_at hl 0 rfl) ?_
      refine va_get (D := D) (ci := 2) (v := .int (x.2.2.2.1.2.1.1)) hx hb hG inX2 hown hK hP 16 rfl rfl 0 (by decide) (hG _ kw141) (fun _ h9 => h9) rfl dX4_startAddress_38 ?_
      refine pu (D := D) (ci := 2) (v := .int (x.2.2.2.1.2.1.1)) (ty := .int) (W' := (wR cI cJ cP ad (x.1, x.2.1, x.2.2.1, x.2.2.2.1, x.2.2.2.2.1, (x.2.2.2.1.2.1.1, x.2.2.2.2.2.1.2.1, x.2.2.2.2.2.1.2.2), x.2.2.2.2.2.2.1, x.2.2.2.2.2.2.2))) hx hb hG inX2 tyX2 tyokX2 nmX2 hown hK hP hD hS 12 rfl rfl 0 (by decide) (hG _ kw141) (fun _ h9 => h9) rfl (by decide +kernel) rfl rfl (Nat.le_of_ble_eq_true rfl) dX4_startAddress_41 rfl (fun H locs hP hD hS => ?_)
      refine lv_aload_n hx hb dX4_startAddress_44 rfl (lv_at hl 2 rfl) ?_
      refine va_get (D := D) (ci := 4) (v := .ref (ad 12)) hx hb hG inX4 hown hK hP 0 rfl rfl 6 (by decide) (hG _ kw124) (fun _ h9 => h9) rfl dX4_startAddress_45 ?_
      refine lv_aload hx hb dX4_startAddress_48 (lv_at hl 0 rfl) ?_
      refine va_get (D := D) (ci := 2) (v := .int (x.2.2.2.1.2.1.2.1)) hx hb hG inX2 hown hK hP 16 rfl rfl 1 (by decide) (hG _ kw88) (fun _ h9 => h9) rfl dX4_startAddress_50 ?_
      refine lv_iload_n hx hb dX4_startAddress_53 rfl (lv_at hl 1 rfl) ?_
      refine k0Si (As := [.int (x.2.2.2.1.2.1.2.1), .int (r1)]) (rest := [.ref (ad 12)]) hx hb hml hown hG hl (okX4_sum l D cI cJ cP  H.size x.2.2.2.1.2.1.2.1 r1 ) (cS 2 hG kw34 kw89 kw35 kw5 hdX4_sum ⟨by decide, by decide⟩) hK hP hD hS hA hN rfl rfl (Nat.le_of_ble_eq_true rfl) dX4_startAddress_54 ⟨Nat.zero_le _, Nat.zero_le _⟩ (fun r13 q13 H locs hP hD hS => ?_)
      have j13 : i12 r13 := by rw [q13]; exact (sumX x.2.2.2.1.2.1.2.1 r1)
      refine pu (D := D) (ci := 2) (v := .int (r13)) (ty := .int) (W' := (wR cI cJ cP ad (x.1, x.2.1, x.2.2.1, x.2.2.2.1, x.2.2.2.2.1, (x.2.2.2.1.2.1.1, r13, x.2.2.2.2.2.1.2.2), x.2.2.2.2.2.2.1, x.2.2.2.2.2.2.2))) hx hb hG inX2 tyX2 tyokX2 nmX2 hown hK hP hD hS 12 rfl rfl 1 (by decide) (hG _ kw88) (fun _ h9 => h9) rfl (by decide +kernel) rfl rfl (Nat.le_of_ble_eq_true rfl) dX4_startAddress_57 rfl (fun H locs hP hD hS => ?_)
      refine lv_aload_n hx hb dX4_startAddress_60 rfl (lv_at hl 2 rfl) ?_
      refine va_get (D := D) (ci := 4) (v := .ref (ad 12)) hx hb hG inX4 hown hK hP 0 rfl rfl 6 (by decide) (hG _ kw124) (fun _ h9 => h9) rfl dX4_startAddress_61 ?_
      refine lv_aload_n hx hb dX4_startAddress_64 rfl (lv_at hl 2 rfl) ?_
      refine va_get (D := D) (ci := 4) (v := .ref (ad 19)) hx hb hG inX4 hown hK hP 0 rfl rfl 5 (by decide) (hG _ kw87) (fun _ h9 => h9) rfl dX4_startAddress_65 ?_
      refine va_get (D := D) (ci := 2) (v := .int (x.2.2.2.2.1.2.2)) hx hb hG inX2 hown hK hP 19 rfl rfl 2 (by decide) (hG _ kw119) (fun _ h9 => h9) rfl dX4_startAddress_68 ?_
      refine lv_aload hx hb dX4_startAddress_71 (lv_at hl 0 rfl) ?_
      refine va_get (D := D) (ci := 2) (v := .int (x.2.2.2.1.2.1.2.2)) hx hb hG inX2 hown hK hP 16 rfl rfl 2 (by decide) (hG _ kw119) (fun _ h9 => h9) rfl dX4_startAddress_73 ?_
      refine va_mmax hx hb (hml.trans hl.1.symm) hown (hG _ kw150) (hG _ kw151) (hG _ kw152) (hG _ kw153) (by decide) (Nat.le_of_ble_eq_true rfl) (Nat.zero_le _) (Nat.zero_le _) dX4_startAddress_76 ?_
      refine pu (D := D) (ci := 2) (v := .int ((if x.2.2.2.2.1.2.2 < x.2.2.2.1.2.1.2.2 then x.2.2.2.1.2.1.2.2 else x.2.2.2.2.1.2.2))) (ty := .int) (W' := (wR cI cJ cP ad (x.1, x.2.1, x.2.2.1, x.2.2.2.1, x.2.2.2.2.1, (x.2.2.2.1.2.1.1, r13, (if x.2.2.2.2.1.2.2 < x.2.2.2.1.2.1.2.2 then x.2.2.2.1.2.1.2.2 else x.2.2.2.2.1.2.2)), x.2.2.2.2.2.2.1, x.2.2.2.2.2.2.2))) hx hb hG inX2 tyX2 tyokX2 nmX2 hown hK hP hD hS 12 rfl rfl 2 (by decide) (hG _ kw119) (fun _ h9 => h9) rfl (by decide +kernel) rfl rfl (Nat.le_of_ble_eq_true rfl) dX4_startAddress_79 rfl (fun H locs hP hD hS => ?_)
      refine lv_goto (tgt := 121) hx hb dX4_startAddress_82 (by decide) ?_
      refine lv_lload_n hx hb dX4_startAddress_121 rfl (lv_at hl 3 rfl) ?_
      refine lv_bipush (v := 24) hx hb dX4_startAddress_122 (by decide) ?_
      refine lv_iconst (v := 2) hx hb dX4_startAddress_124 (by decide) ?_
      refine k0Si (As := [.long (a0), .int ((24 : Int32)), .int ((2 : Int32))]) (rest := []) hx hb hml hown hG hl (okX4_field l D cI cJ cP  H.size a0 (24 : Int32) (2 : Int32) ) (cS 3 hG kw4 kw135 kw6 kw5 hdX4_field ⟨by decide, by decide⟩) hK hP hD hS hA hN rfl rfl (Nat.le_of_ble_eq_true rfl) dX4_startAddress_125 ⟨Nat.zero_le _, Nat.zero_le _⟩ (fun r14 q14 H locs hP hD hS => ?_)
      have j14 : i2 r14 := by rw [q14]; exact (f2X a0 (24 : Int32))
      refine lv_istore (lv' := [(4, .int (r14)), (3, .int (r1)), (0, .ref (ad 0)), (1, .long (a0))]) hx hb dX4_startAddress_128 hl (by decide) rfl (fun ls hl => ?_)
      refine lv_iload hx hb dX4_startAddress_130 (lv_at hl 0 rfl) ?_
      refine lv_if_eq (tgt := 159) hx hb dX4_startAddress_132 (by decide) (fun h15 => ?_) (fun h15 => ?_)
      · exact retv (u := (x.1, x.2.1, x.2.2.1, x.2.2.2.1, x.2.2.2.2.1, (x.2.2.2.1.2.1.1, r13, (if x.2.2.2.2.1.2.2 < x.2.2.2.1.2.1.2.2 then x.2.2.2.1.2.1.2.2 else x.2.2.2.2.1.2.2)), x.2.2.2.2.2.2.1, x.2.2.2.2.2.2.2)) hx hb hr hlocks hK hP hD hS dX4_startAddress_159 (by unfold fnX4_startAddress; rw [← q1]; (try dsimp only); rw [if_neg h2]; rw [← q6]; (try dsimp only); rw [if_neg h7]; rw [if_pos h12]; rw [← q13]; (try dsimp only); rw [← q14]; (try dsimp only); rw [if_pos h15]; (try exact rfl))
      · refine lv_aload_n hx hb dX4_startAddress_135 rfl (lv_at hl 2 rfl) ?_
        refine va_get (D := D) (ci := 4) (v := .ref (ad 12)) hx hb hG inX4 hown hK hP 0 rfl rfl 6 (by decide) (hG _ kw124) (fun _ h9 => h9) rfl dX4_startAddress_136 ?_
        refine lv_aload_n hx hb dX4_startAddress_139 rfl (lv_at hl 2 rfl) ?_
        refine va_get (D := D) (ci := 4) (v := .ref (ad 12)) hx hb hG inX4 hown hK hP 0 rfl rfl 6 (by decide) (hG _ kw124) (fun _ h9 => h9) rfl dX4_startAddress_140 ?_
        refine va_get (D := D) (ci := 2) (v := .int (r13)) hx hb hG inX2 hown hK hP 12 rfl rfl 1 (by decide) (hG _ kw88) (fun _ h9 => h9) rfl dX4_startAddress_143 ?_
        refine lv_aload_n hx hb dX4_startAddress_146 rfl (lv_at hl 2 rfl) ?_
        refine va_get (D := D) (ci := 4) (v := .ref (ad 13)) hx hb hG inX4 hown hK hP 0 rfl rfl 3 (by decide) (hG _ kw134) (fun _ h9 => h9) rfl dX4_startAddress_147 ?_
        refine lv_iload hx hb dX4_startAddress_150 (lv_at hl 0 rfl) ?_
        refine gi (D := D) (j := (r14).toNatClampNeg) (f := x.2.2.1) hx hb hK hP 13 0 rfl rfl (in2 j14) rfl dX4_startAddress_152 ?_
        refine k0Si (As := [.int (r13), .int ((x.2.2.1 (r14).toNatClampNeg))]) (rest := [.ref (ad 12)]) hx hb hml hown hG hl (okX4_sum l D cI cJ cP  H.size r13 (x.2.2.1 (r14).toNatClampNeg) ) (cS 2 hG kw34 kw89 kw35 kw5 hdX4_sum ⟨by decide, by decide⟩) hK hP hD hS hA hN rfl rfl (Nat.le_of_ble_eq_true rfl) dX4_startAddress_153 ⟨Nat.zero_le _, Nat.zero_le _⟩ (fun r16 q16 H locs hP hD hS => ?_)
        have j16 : i12 r16 := by rw [q16]; exact (sumX r13 (x.2.2.1 (r14).toNatClampNeg))
        refine pu (D := D) (ci := 2) (v := .int (r16)) (ty := .int) (W' := (wR cI cJ cP ad (x.1, x.2.1, x.2.2.1, x.2.2.2.1, x.2.2.2.2.1, (x.2.2.2.1.2.1.1, r16, (if x.2.2.2.2.1.2.2 < x.2.2.2.1.2.1.2.2 then x.2.2.2.1.2.1.2.2 else x.2.2.2.2.1.2.2)), x.2.2.2.2.2.2.1, x.2.2.2.2.2.2.2))) hx hb hG inX2 tyX2 tyokX2 nmX2 hown hK hP hD hS 12 rfl rfl 1 (by decide) (hG _ kw88) (fun _ h9 => h9) rfl (by decide +kernel) rfl rfl (Nat.le_of_ble_eq_true rfl) dX4_startAddress_156 rfl (fun H locs hP hD hS => ?_)
        exact retv (u := (x.1, x.2.1, x.2.2.1, x.2.2.2.1, x.2.2.2.2.1, (x.2.2.2.1.2.1.1, r16, (if x.2.2.2.2.1.2.2 < x.2.2.2.1.2.1.2.2 then x.2.2.2.1.2.1.2.2 else x.2.2.2.2.1.2.2)), x.2.2.2.2.2.2.1, x.2.2.2.2.2.2.2)) hx hb hr hlocks hK hP hD hS dX4_startAddress_159 (by unfold fnX4_startAddress; rw [← q1]; (try dsimp only); rw [if_neg h2]; rw [← q6]; (try dsimp only); rw [if_neg h7]; rw [if_pos h12]; rw [← q13]; (try dsimp only); rw [← q14]; (try dsimp only); rw [if_neg h15]; rw [← q16]; (try dsimp only); (try exact rfl))
    by_cases h17 : r6 = (2 : Int32)
    · refine gq (D := D) (j := 2) (x := ad 17) hx hb hK hP 14 2 rfl rfl (by rw [h17]; exact inL (by decide)) (by rw [h17]; decide) rfl dX4_startAddress_29 ?_
      refine lv_astore (lv' := [(4, .ref (ad 17)), (3, .int (r1)), (0, .ref (ad 0)), (1, .long (a0))]) hx hb dX4_startAddress_30 hl (by decide) rfl (fun ls hl => ?_)
      refine lv_aload_n hx hb dX4_startAddress_32 rfl (lv_at hl 2 rfl) ?_
      refine va_get (D := D) (ci := 4) (v := .ref (ad 12)) hx hb hG inX4 hown hK hP 0 rfl rfl 6 (by decide) (hG _ kw124) (fun _ h9 => h9) rfl dX4_startAddress_33 ?_
      refine lv_aload hx hb dX4_startAddress_36 (lv_at hl 0 rfl) ?_
      refine va_get (D := D) (ci := 2) (v := .int (x.2.2.2.1.2.2.1.1)) hx hb hG inX2 hown hK hP 17 rfl rfl 0 (by decide) (hG _ kw141) (fun _ h9 => h9) rfl dX4_startAddress_38 ?_
      refine pu (D := D) (ci := 2) (v := .int (x.2.2.2.1.2.2.1.1)) (ty := .int) (W' := (wR cI cJ cP ad (x.1, x.2.1, x.2.2.1, x.2.2.2.1, x.2.2.2.2.1, (x.2.2.2.1.2.2.1.1, x.2.2.2.2.2.1.2.1, x.2.2.2.2.2.1.2.2), x.2.2.2.2.2.2.1, x.2.2.2.2.2.2.2))) hx hb hG inX2 tyX2 tyokX2 nmX2 hown hK hP hD hS 12 rfl rfl 0 (by decide) (hG _ kw141) (fun _ h9 => h9) rfl (by decide +kernel) rfl rfl (Nat.le_of_ble_eq_true rfl) dX4_startAddress_41 rfl (fun H locs hP hD hS => ?_)
      refine lv_aload_n hx hb dX4_startAddress_44 rfl (lv_at hl 2 rfl) ?_
      refine va_get (D := D) (ci := 4) (v := .ref (ad 12)) hx hb hG inX4 hown hK hP 0 rfl rfl 6 (by decide) (hG _ kw124) (fun _ h9 => h9) rfl dX4_startAddress_45 ?_
      refine lv_aload hx hb dX4_startAddress_48 (lv_at hl 0 rfl) ?_
      refine va_get (D := D) (ci := 2) (v := .int (x.2.2.2.1.2.2.1.2.1)) hx hb hG inX2 hown hK hP 17 rfl rfl 1 (by decide) (hG _ kw88) (fun _ h9 => h9) rfl dX4_startAddress_50 ?_
      refine lv_iload_n hx hb dX4_startAddress_53 rfl (lv_at hl 1 rfl) ?_
      refine k0Si (As := [.int (x.2.2.2.1.2.2.1.2.1), .int (r1)]) (rest := [.ref (ad 12)]) hx hb hml hown hG hl (okX4_sum l D cI cJ cP  H.size x.2.2.2.1.2.2.1.2.1 r1 ) (cS 2 hG kw34 kw89 kw35 kw5 hdX4_sum ⟨by decide, by decide⟩) hK hP hD hS hA hN rfl rfl (Nat.le_of_ble_eq_true rfl) dX4_startAddress_54 ⟨Nat.zero_le _, Nat.zero_le _⟩ (fun r18 q18 H locs hP hD hS => ?_)
      have j18 : i12 r18 := by rw [q18]; exact (sumX x.2.2.2.1.2.2.1.2.1 r1)
      refine pu (D := D) (ci := 2) (v := .int (r18)) (ty := .int) (W' := (wR cI cJ cP ad (x.1, x.2.1, x.2.2.1, x.2.2.2.1, x.2.2.2.2.1, (x.2.2.2.1.2.2.1.1, r18, x.2.2.2.2.2.1.2.2), x.2.2.2.2.2.2.1, x.2.2.2.2.2.2.2))) hx hb hG inX2 tyX2 tyokX2 nmX2 hown hK hP hD hS 12 rfl rfl 1 (by decide) (hG _ kw88) (fun _ h9 => h9) rfl (by decide +kernel) rfl rfl (Nat.le_of_ble_eq_true rfl) dX4_startAddress_57 rfl (fun H locs hP hD hS => ?_)
      refine lv_aload_n hx hb dX4_startAddress_60 rfl (lv_at hl 2 rfl) ?_
      refine va_get (D := D) (ci := 4) (v := .ref (ad 12)) hx hb hG inX4 hown hK hP 0 rfl rfl 6 (by decide) (hG _ kw124) (fun _ h9 => h9) rfl dX4_startAddress_61 ?_
      refine lv_aload_n hx hb dX4_startAddress_64 rfl (lv_at hl 2 rfl) ?_
      refine va_get (D := D) (ci := 4) (v := .ref (ad 19)) hx hb hG inX4 hown hK hP 0 rfl rfl 5 (by decide) (hG _ kw87) (fun _ h9 => h9) rfl dX4_startAddress_65 ?_
      refine va_get (D := D) (ci := 2) (v := .int (x.2.2.2.2.1.2.2)) hx hb hG inX2 hown hK hP 19 rfl rfl 2 (by decide) (hG _ kw119) (fun _ h9 => h9) rfl dX4_startAddress_68 ?_
      refine lv_aload hx hb dX4_startAddress_71 (lv_at hl 0 rfl) ?_
      refine va_get (D := D) (ci := 2) (v := .int (x.2.2.2.1.2.2.1.2.2)) hx hb hG inX2 hown hK hP 17 rfl rfl 2 (by decide) (hG _ kw119) (fun _ h9 => h9) rfl dX4_startAddress_73 ?_
      refine va_mmax hx hb (hml.trans hl.1.symm) hown (hG _ kw150) (hG _ kw151) (hG _ kw152) (hG _ kw153) (by decide) (Nat.le_of_ble_eq_true rfl) (Nat.zero_le _) (Nat.zero_le _) dX4_startAddress_76 ?_
      refine pu (D := D) (ci := 2) (v := .int ((if x.2.2.2.2.1.2.2 < x.2.2.2.1.2.2.1.2.2 then x.2.2.2.1.2.2.1.2.2 else x.2.2.2.2.1.2.2))) (ty := .int) (W' := (wR cI cJ cP ad (x.1, x.2.1, x.2.2.1, x.2.2.2.1, x.2.2.2.2.1, (x.2.2.2.1.2.2.1.1, r18, (if x.2.2.2.2.1.2.2 < x.2.2.2.1.2.2.1.2.2 then x.2.2.2.1.2.2.1.2.2 else x.2.2.2.2.1.2.2)), x.2.2.2.2.2.2.1, x.2.2.2.2.2.2.2))) hx hb hG inX2 tyX2 tyokX2 nmX2 hown hK hP hD hS 12 rfl rfl 2 (by decide) (hG _ kw119) (fun _ h9 => h9) rfl (by decide +kernel) rfl rfl (Nat.le_of_ble_eq_true rfl) dX4_startAddress_79 rfl (fun H locs hP hD hS => ?_)
      refine lv_goto (tgt := 121) hx hb dX4_startAddress_82 (by decide) ?_
      refine lv_lload_n hx hb dX4_startAddress_121 rfl (lv_at hl 3 rfl) ?_
      refine lv_bipush (v := 24) hx hb dX4_startAddress_122 (by decide) ?_
      refine lv_iconst (v := 2) hx hb dX4_startAddress_124 (by decide) ?_
      refine k0Si (As := [.long (a0), .int ((24 : Int32)), .int ((2 : Int32))]) (rest := []) hx hb hml hown hG hl (okX4_field l D cI cJ cP  H.size a0 (24 : Int32) (2 : Int32) ) (cS 3 hG kw4 kw135 kw6 kw5 hdX4_field ⟨by decide, by decide⟩) hK hP hD hS hA hN rfl rfl (Nat.le_of_ble_eq_true rfl) dX4_startAddress_125 ⟨Nat.zero_le _, Nat.zero_le _⟩ (fun r19 q19 H locs hP hD hS => ?_)
      have j19 : i2 r19 := by rw [q19]; exact (f2X a0 (24 : Int32))
      refine lv_istore (lv' := [(4, .int (r19)), (3, .int (r1)), (0, .ref (ad 0)), (1, .long (a0))]) hx hb dX4_startAddress_128 hl (by decide) rfl (fun ls hl => ?_)
      refine lv_iload hx hb dX4_startAddress_130 (lv_at hl 0 rfl) ?_
      refine lv_if_eq (tgt := 159) hx hb dX4_startAddress_132 (by decide) (fun h20 => ?_) (fun h20 => ?_)
      · exact retv (u := (x.1, x.2.1, x.2.2.1, x.2.2.2.1, x.2.2.2.2.1, (x.2.2.2.1.2.2.1.1, r18, (if x.2.2.2.2.1.2.2 < x.2.2.2.1.2.2.1.2.2 then x.2.2.2.1.2.2.1.2.2 else x.2.2.2.2.1.2.2)), x.2.2.2.2.2.2.1, x.2.2.2.2.2.2.2)) hx hb hr hlocks hK hP hD hS dX4_startAddress_159 (by unfold fnX4_startAddress; rw [← q1]; (try dsimp only); rw [if_neg h2]; rw [← q6]; (try dsimp only); rw [if_neg h7]; rw [if_neg h12]; rw [if_pos h17]; rw [← q18]; (try dsimp only); rw [← q19]; (try dsimp only); rw [if_pos h20]; (try exact rfl))
      · refine lv_aload_n hx hb dX4_startAddress_135 rfl (lv_at hl 2 rfl) ?_
        refine va_get (D := D) (ci := 4) (v := .ref (ad 12)) hx hb hG inX4 hown hK hP 0 rfl rfl 6 (by decide) (hG _ kw124) (fun _ h9 => h9) rfl dX4_startAddress_136 ?_
        refine lv_aload_n hx hb dX4_startAddress_139 rfl (lv_at hl 2 rfl) ?_
        refine va_get (D := D) (ci := 4) (v := .ref (ad 12)) hx hb hG inX4 hown hK hP 0 rfl rfl 6 (by decide) (hG _ kw124) (fun _ h9 => h9) rfl dX4_startAddress_140 ?_
        refine va_get (D := D) (ci := 2) (v := .int (r18)) hx hb hG inX2 hown hK hP 12 rfl rfl 1 (by decide) (hG _ kw88) (fun _ h9 => h9) rfl dX4_startAddress_143 ?_
        refine lv_aload_n hx hb dX4_startAddress_146 rfl (lv_at hl 2 rfl) ?_
        refine va_get (D := D) (ci := 4) (v := .ref (ad 13)) hx hb hG inX4 hown hK hP 0 rfl rfl 3 (by decide) (hG _ kw134) (fun _ h9 => h9) rfl dX4_startAddress_147 ?_
        refine lv_iload hx hb dX4_startAddress_150 (lv_at hl 0 rfl) ?_
        refine gi (D := D) (j := (r19).toNatClampNeg) (f := x.2.2.1) hx hb hK hP 13 0 rfl rfl (in2 j19) rfl dX4_startAddress_152 ?_
        refine k0Si (As := [.int (r18), .int ((x.2.2.1 (r19).toNatClampNeg))]) (rest := [.ref (ad 12)]) hx hb hml hown hG hl (okX4_sum l D cI cJ cP  H.size r18 (x.2.2.1 (r19).toNatClampNeg) ) (cS 2 hG kw34 kw89 kw35 kw5 hdX4_sum ⟨by decide, by decide⟩) hK hP hD hS hA hN rfl rfl (Nat.le_of_ble_eq_true rfl) dX4_startAddress_153 ⟨Nat.zero_le _, Nat.zero_le _⟩ (fun r21 q21 H locs hP hD hS => ?_)
        have j21 : i12 r21 := by rw [q21]; exact (sumX r18 (x.2.2.1 (r19).toNatClampNeg))
        refine pu (D := D) (ci := 2) (v := .int (r21)) (ty := .int) (W' := (wR cI cJ cP ad (x.1, x.2.1, x.2.2.1, x.2.2.2.1, x.2.2.2.2.1, (x.2.2.2.1.2.2.1.1, r21, (if x.2.2.2.2.1.2.2 < x.2.2.2.1.2.2.1.2.2 then x.2.2.2.1.2.2.1.2.2 else x.2.2.2.2.1.2.2)), x.2.2.2.2.2.2.1, x.2.2.2.2.2.2.2))) hx hb hG inX2 tyX2 tyokX2 nmX2 hown hK hP hD hS 12 rfl rfl 1 (by decide) (hG _ kw88) (fun _ h9 => h9) rfl (by decide +kernel) rfl rfl (Nat.le_of_ble_eq_true rfl) dX4_startAddress_156 rfl (fun H locs hP hD hS => ?_)
        exact retv (u := (x.1, x.2.1, x.2.2.1, x.2.2.2.1, x.2.2.2.2.1, (x.2.2.2.1.2.2.1.1, r21, (if x.2.2.2.2.1.2.2 < x.2.2.2.1.2.2.1.2.2 then x.2.2.2.1.2.2.1.2.2 else x.2.2.2.2.1.2.2)), x.2.2.2.2.2.2.1, x.2.2.2.2.2.2.2)) hx hb hr hlocks hK hP hD hS dX4_startAddress_159 (by unfold fnX4_startAddress; rw [← q1]; (try dsimp only); rw [if_neg h2]; rw [← q6]; (try dsimp only); rw [if_neg h7]; rw [if_neg h12]; rw [if_pos h17]; rw [← q18]; (try dsimp only); rw [← q19]; (try dsimp only); rw [if_neg h20]; rw [← q21]; (try dsimp only); (try exact rfl))
    have h22 : r6 = (3 : Int32) := c4l j6 h7 h12 h17
    refine gq (D := D) (j := 3) (x := ad 18) hx hb hK hP 14 2 rfl rfl (by rw [h22]; exact inL (by decide)) (by rw [h22]; decide) rfl dX4_startAddress_29 ?_
    refine lv_astore (lv' := [(4, .ref (ad 18)), (3, .int (r1)), (0, .ref (ad 0)), (1, .long (a0))]) hx hb dX4_startAddress_30 hl (by decide) rfl (fun ls hl => ?_)
    refine lv_aload_n hx hb dX4_startAddress_32 rfl (lv_at hl 2 rfl) ?_
    refine va_get (D := D) (ci := 4) (v := .ref (ad 12)) hx hb hG inX4 hown hK hP 0 rfl rfl 6 (by decide) (hG _ kw124) (fun _ h9 => h9) rfl dX4_startAddress_33 ?_
    refine lv_aload hx hb dX4_startAddress_36 (lv_at hl 0 rfl) ?_
    refine va_get (D := D) (ci := 2) (v := .int (x.2.2.2.1.2.2.2.1)) hx hb hG inX2 hown hK hP 18 rfl rfl 0 (by decide) (hG _ kw141) (fun _ h9 => h9) rfl dX4_startAddress_38 ?_
    refine pu (D := D) (ci := 2) (v := .int (x.2.2.2.1.2.2.2.1)) (ty := .int) (W' := (wR cI cJ cP ad (x.1, x.2.1, x.2.2.1, x.2.2.2.1, x.2.2.2.2.1, (x.2.2.2.1.2.2.2.1, x.2.2.2.2.2.1.2.1, x.2.2.2.2.2.1.2.2), x.2.2.2.2.2.2.1, x.2.2.2.2.2.2.2))) hx hb hG inX2 tyX2 tyokX2 nmX2 hown hK hP hD hS 12 rfl rfl 0 (by decide) (hG _ kw141) (fun _ h9 => h9) rfl (by decide +kernel) rfl rfl (Nat.le_of_ble_eq_true rfl) dX4_startAddress_41 rfl (fun H locs hP hD hS => ?_)
    refine lv_aload_n hx hb dX4_startAddress_44 rfl (lv_at hl 2 rfl) ?_
    refine va_get (D := D) (ci := 4) (v := .ref (ad 12)) hx hb hG inX4 hown hK hP 0 rfl rfl 6 (by decide) (hG _ kw124) (fun _ h9 => h9) rfl dX4_startAddress_45 ?_
    refine lv_aload hx hb dX4_startAddress_48 (lv_at hl 0 rfl) ?_
    refine va_get (D := D) (ci := 2) (v := .int (x.2.2.2.1.2.2.2.2.1)) hx hb hG inX2 hown hK hP 18 rfl rfl 1 (by decide) (hG _ kw88) (fun _ h9 => h9) rfl dX4_startAddress_50 ?_
    refine lv_iload_n hx hb dX4_startAddress_53 rfl (lv_at hl 1 rfl) ?_
    refine k0Si (As := [.int (x.2.2.2.1.2.2.2.2.1), .int (r1)]) (rest := [.ref (ad 12)]) hx hb hml hown hG hl (okX4_sum l D cI cJ cP  H.size x.2.2.2.1.2.2.2.2.1 r1 ) (cS 2 hG kw34 kw89 kw35 kw5 hdX4_sum ⟨by decide, by decide⟩) hK hP hD hS hA hN rfl rfl (Nat.le_of_ble_eq_true rfl) dX4_startAddress_54 ⟨Nat.zero_le _, Nat.zero_le _⟩ (fun r23 q23 H locs hP hD hS => ?_)
    have j23 : i12 r23 := by rw [q23]; exact (sumX x.2.2.2.1.2.2.2.2.1 r1)
    refine pu (D := D) (ci := 2) (v := .int (r23)) (ty := .int) (W' := (wR cI cJ cP ad (x.1, x.2.1, x.2.2.1, x.2.2.2.1, x.2.2.2.2.1, (x.2.2.2.1.2.2.2.1, r23, x.2.2.2.2.2.1.2.2), x.2.2.2.2.2.2.1, x.2.2.2.2.2.2.2))) hx hb hG inX2 tyX2 tyokX2 nmX2 hown hK hP hD hS 12 rfl rfl 1 (by decide) (hG _ kw88) (fun _ h9 => h9) rfl (by decide +kernel) rfl rfl (Nat.le_of_ble_eq_true rfl) dX4_startAddress_57 rfl (fun H locs hP hD hS => ?_)
    refine lv_aload_n hx hb dX4_startAddress_60 rfl (lv_at hl 2 rfl) ?_
    refine va_get (D := D) (ci := 4) (v := .ref (ad 12)) hx hb hG inX4 hown hK hP 0 rfl rfl 6 (by decide) (hG _ kw124) (fun _ h9 => h9) rfl dX4_startAddress_61 ?_
    refine lv_aload_n hx hb dX4_startAddress_64 rfl (lv_at hl 2 rfl) ?_
    refine va_get (D := D) (ci := 4) (v := .ref (ad 19)) hx hb hG inX4 hown hK hP 0 rfl rfl 5 (by decide) (hG _ kw87) (fun _ h9 => h9) rfl dX4_startAddress_65 ?_
    refine va_get (D := D) (ci := 2) (v := .int (x.2.2.2.2.1.2.2)) hx hb hG inX2 hown hK hP 19 rfl rfl 2 (by decide) (hG _ kw119) (fun _ h9 => h9) rfl dX4_startAddress_68 ?_
    refine lv_aload hx hb dX4_startAddress_71 (lv_at hl 0 rfl) ?_
    refine va_get (D := D) (ci := 2) (v := .int (x.2.2.2.1.2.2.2.2.2)) hx hb hG inX2 hown hK hP 18 rfl rfl 2 (by decide) (hG _ kw119) (fun _ h9 => h9) rfl dX4_startAddress_73 ?_
    refine va_mmax hx hb (hml.trans hl.1.symm) hown (hG _ kw150) (hG _ kw151) (hG _ kw152) (hG _ kw153) (by decide) (Nat.le_of_ble_eq_true rfl) (Nat.zero_le _) (Nat.zero_le _) dX4_startAddress_76 ?_
    refine pu (D := D) (ci := 2) (v := .int ((if x.2.2.2.2.1.2.2 < x.2.2.2.1.2.2.2.2.2 then x.2.2.2.1.2.2.2.2.2 else x.2.2.2.2.1.2.2))) (ty := .int) (W' := (wR cI cJ cP ad (x.1, x.2.1, x.2.2.1, x.2.2.2.1, x.2.2.2.2.1, (x.2.2.2.1.2.2.2.1, r23, (if x.2.2.2.2.1.2.2 < x.2.2.2.1.2.2.2.2.2 then x.2.2.2.1.2.2.2.2.2 else x.2.2.2.2.1.2.2)), x.2.2.2.2.2.2.1, x.2.2.2.2.2.2.2))) hx hb hG inX2 tyX2 tyokX2 nmX2 hown hK hP hD hS 12 rfl rfl 2 (by decide) (hG _ kw119) (fun _ h9 => h9) rfl (by decide +kernel) rfl rfl (Nat.le_of_ble_eq_true rfl) dX4_startAddress_79 rfl (fun H locs hP hD hS => ?_)
    refine lv_goto (tgt := 121) hx hb dX4_startAddress_82 (by decide) ?_
    refine lv_lload_n hx hb dX4_startAddress_121 rfl (lv_at hl 3 rfl) ?_
    refine lv_bipush (v := 24) hx hb dX4_startAddress_122 (by decide) ?_
    refine lv_iconst (v := 2) hx hb dX4_startAddress_124 (by decide) ?_
    refine k0Si (As := [.long (a0), .int ((24 : Int32)), .int ((2 : Int32))]) (rest := []) hx hb hml hown hG hl (okX4_field l D cI cJ cP  H.size a0 (24 : Int32) (2 : Int32) ) (cS 3 hG kw4 kw135 kw6 kw5 hdX4_field ⟨by decide, by decide⟩) hK hP hD hS hA hN rfl rfl (Nat.le_of_ble_eq_true rfl) dX4_startAddress_125 ⟨Nat.zero_le _, Nat.zero_le _⟩ (fun r24 q24 H locs hP hD hS => ?_)
    have j24 : i2 r24 := by rw [q24]; exact (f2X a0 (24 : Int32))
    refine lv_istore (lv' := [(4, .int (r24)), (3, .int (r1)), (0, .ref (ad 0)), (1, .long (a0))]) hx hb dX4_startAddress_128 hl (by decide) rfl (fun ls hl => ?_)
    refine lv_iload hx hb dX4_startAddress_130 (lv_at hl 0 rfl) ?_
    refine lv_if_eq (tgt := 159) hx hb dX4_startAddress_132 (by decide) (fun h25 => ?_) (fun h25 => ?_)
    · exact retv (u := (x.1, x.2.1, x.2.2.1, x.2.2.2.1, x.2.2.2.2.1, (x.2.2.2.1.2.2.2.1, r23, (if x.2.2.2.2.1.2.2 < x.2.2.2.1.2.2.2.2.2 then x.2.2.2.1.2.2.2.2.2 else x.2.2.2.2.1.2.2)), x.2.2.2.2.2.2.1, x.2.2.2.2.2.2.2)) hx hb hr hlocks hK hP hD hS dX4_startAddress_159 (by unfold fnX4_startAddress; rw [← q1]; (try dsimp only); rw [if_neg h2]; rw [← q6]; (try dsimp only); rw [if_neg h7]; rw [if_neg h12]; rw [if_neg h17]; rw [← q23]; (try dsimp only); rw [← q24]; (try dsimp only); rw [if_pos h25]; (try exact rfl))
    · refine lv_aload_n hx hb dX4_startAddress_135 rfl (lv_at hl 2 rfl) ?_
      refine va_get (D := D) (ci := 4) (v := .ref (ad 12)) hx hb hG inX4 hown hK hP 0 rfl rfl 6 (by decide) (hG _ kw124) (fun _ h9 => h9) rfl dX4_startAddress_136 ?_
      refine lv_aload_n hx hb dX4_startAddress_139 rfl (lv_at hl 2 rfl) ?_
      refine va_get (D := D) (ci := 4) (v := .ref (ad 12)) hx hb hG inX4 hown hK hP 0 rfl rfl 6 (by decide) (hG _ kw124) (fun _ h9 => h9) rfl dX4_startAddress_140 ?_
      refine va_get (D := D) (ci := 2) (v := .int (r23)) hx hb hG inX2 hown hK hP 12 rfl rfl 1 (by decide) (hG _ kw88) (fun _ h9 => h9) rfl dX4_startAddress_143 ?_
      refine lv_aload_n hx hb dX4_startAddress_146 rfl (lv_at hl 2 rfl) ?_
      refine va_get (D := D) (ci := 4) (v := .ref (ad 13)) hx hb hG inX4 hown hK hP 0 rfl rfl 3 (by decide) (hG _ kw134) (fun _ h9 => h9) rfl dX4_startAddress_147 ?_
      refine lv_iload hx hb dX4_startAddress_150 (lv_at hl 0 rfl) ?_
      refine gi (D := D) (j := (r24).toNatClampNeg) (f := x.2.2.1) hx hb hK hP 13 0 rfl rfl (in2 j24) rfl dX4_startAddress_152 ?_
      refine k0Si (As := [.int (r23), .int ((x.2.2.1 (r24).toNatClampNeg))]) (rest := [.ref (ad 12)]) hx hb hml hown hG hl (okX4_sum l D cI cJ cP  H.size r23 (x.2.2.1 (r24).toNatClampNeg) ) (cS 2 hG kw34 kw89 kw35 kw5 hdX4_sum ⟨by decide, by decide⟩) hK hP hD hS hA hN rfl rfl (Nat.le_of_ble_eq_true rfl) dX4_startAddress_153 ⟨Nat.zero_le _, Nat.zero_le _⟩ (fun r26 q26 H locs hP hD hS => ?_)
      have j26 : i12 r26 := by rw [q26]; exact (sumX r23 (x.2.2.1 (r24).toNatClampNeg))
      refine pu (D := D) (ci := 2) (v := .int (r26)) (ty := .int) (W' := (wR cI cJ cP ad (x.1, x.2.1, x.2.2.1, x.2.2.2.1, x.2.2.2.2.1, (x.2.2.2.1.2.2.2.1, r26, (if x.2.2.2.2.1.2.2 < x.2.2.2.1.2.2.2.2.2 then x.2.2.2.1.2.2.2.2.2 else x.2.2.2.2.1.2.2)), x.2.2.2.2.2.2.1, x.2.2.2.2.2.2.2))) hx hb hG inX2 tyX2 tyokX2 nmX2 hown hK hP hD hS 12 rfl rfl 1 (by decide) (hG _ kw88) (fun _ h9 => h9) rfl (by decide +kernel) rfl rfl (Nat.le_of_ble_eq_true rfl) dX4_startAddress_156 rfl (fun H locs hP hD hS => ?_)
      exact retv (u := (x.1, x.2.1, x.2.2.1, x.2.2.2.1, x.2.2.2.2.1, (x.2.2.2.1.2.2.2.1, r26, (if x.2.2.2.2.1.2.2 < x.2.2.2.1.2.2.2.2.2 then x.2.2.2.1.2.2.2.2.2 else x.2.2.2.2.1.2.2)), x.2.2.2.2.2.2.1, x.2.2.2.2.2.2.2)) hx hb hr hlocks hK hP hD hS dX4_startAddress_159 (by unfold fnX4_startAddress; rw [← q1]; (try dsimp only); rw [if_neg h2]; rw [← q6]; (try dsimp only); rw [if_neg h7]; rw [if_neg h12]; rw [if_neg h17]; rw [← q23]; (try dsimp only); rw [← q24]; (try dsimp only); rw [if_neg h25]; rw [← q26]; (try dsimp only); (try exact rfl))
def fnX4_takeInterrupt (x : TR)  : Int32 × TR :=
  if x.2.1.2.1 = (0 : Int32) then
   if x.2.1.2.2.2.2.2.2 = (0 : Int32) then
    ((0 : Int32), x)
   else
    if (x.2.1.2.2.2.2.2.2 &&& (1 : Int32)) = (0 : Int32) then
     if (x.2.1.2.2.2.2.2.2 &&& (2 : Int32)) = (0 : Int32) then
      if (x.2.1.2.2.2.2.2.2 &&& (4 : Int32)) = (0 : Int32) then
       ((11 : Int32), (x.1, (x.2.1.1, x.2.1.2.1, x.2.1.2.2.1, x.2.1.2.2.2.1, x.2.1.2.2.2.2.1, x.2.1.2.2.2.2.2.1, (x.2.1.2.2.2.2.2.2 &&& (-9 : Int32))), x.2.2.1, x.2.2.2.1, x.2.2.2.2.1, x.2.2.2.2.2.1, x.2.2.2.2.2.2.1, x.2.2.2.2.2.2.2))
      else
       ((10 : Int32), (x.1, (x.2.1.1, x.2.1.2.1, x.2.1.2.2.1, x.2.1.2.2.2.1, x.2.1.2.2.2.2.1, x.2.1.2.2.2.2.2.1, (x.2.1.2.2.2.2.2.2 &&& (-5 : Int32))), x.2.2.1, x.2.2.2.1, x.2.2.2.2.1, x.2.2.2.2.2.1, x.2.2.2.2.2.2.1, x.2.2.2.2.2.2.2))
     else
      ((9 : Int32), (x.1, (x.2.1.1, x.2.1.2.1, x.2.1.2.2.1, x.2.1.2.2.2.1, x.2.1.2.2.2.2.1, x.2.1.2.2.2.2.2.1, (x.2.1.2.2.2.2.2.2 &&& (-3 : Int32))), x.2.2.1, x.2.2.2.1, x.2.2.2.2.1, x.2.2.2.2.2.1, x.2.2.2.2.2.2.1, x.2.2.2.2.2.2.2))
    else
     ((8 : Int32), (x.1, (x.2.1.1, x.2.1.2.1, x.2.1.2.2.1, x.2.1.2.2.2.1, x.2.1.2.2.2.2.1, x.2.1.2.2.2.2.2.1, (x.2.1.2.2.2.2.2.2 &&& (-2 : Int32))), x.2.2.1, x.2.2.2.1, x.2.2.2.2.1, x.2.2.2.2.2.1, x.2.2.2.2.2.2.1, x.2.2.2.2.2.2.2))
  else
   ((0 : Int32), x)
abbrev ivX4_takeInterruptP (z : Int32 × TR) : Prop := i4 z.1 ∧ iR z.2
set_option maxRecDepth 100000 in
set_option maxHeartbeats 4000000 in
theorem ivX4_takeInterrupt (x : TR)  (hI : iR x) : ivX4_takeInterruptP (fnX4_takeInterrupt x) := by
  unfold fnX4_takeInterrupt
  try dsimp only
  refine iteI (fun h1 => ?_) (fun h1 => ?_)
  · refine iteI (fun h2 => ?_) (fun h2 => ?_)
    · exact ⟨(show i4 (0 : Int32) from by decide), hI⟩
    · refine iteI (fun h3 => ?_) (fun h3 => ?_)
      · refine iteI (fun h4 => ?_) (fun h4 => ?_)
        · refine iteI (fun h5 => ?_) (fun h5 => ?_)
          · exact ⟨(show i4 (11 : Int32) from by decide), ⟨hI.1, (askm (-9) (by decide) hI.2.1), hI.2.2.1, hI.2.2.2.1, hI.2.2.2.2.1, hI.2.2.2.2.2.1, hI.2.2.2.2.2.2.1, hI.2.2.2.2.2.2.2⟩⟩
          · exact ⟨(show i4 (10 : Int32) from by decide), ⟨hI.1, (askm (-5) (by decide) hI.2.1), hI.2.2.1, hI.2.2.2.1, hI.2.2.2.2.1, hI.2.2.2.2.2.1, hI.2.2.2.2.2.2.1, hI.2.2.2.2.2.2.2⟩⟩
        · exact ⟨(show i4 (9 : Int32) from by decide), ⟨hI.1, (askm (-3) (by decide) hI.2.1), hI.2.2.1, hI.2.2.2.1, hI.2.2.2.2.1, hI.2.2.2.2.2.1, hI.2.2.2.2.2.2.1, hI.2.2.2.2.2.2.2⟩⟩
      · exact ⟨(show i4 (8 : Int32) from by decide), ⟨hI.1, (askm (-2) (by decide) hI.2.1), hI.2.2.1, hI.2.2.2.1, hI.2.2.2.2.1, hI.2.2.2.2.2.1, hI.2.2.2.2.2.2.1, hI.2.2.2.2.2.2.2⟩⟩
  · exact ⟨(show i4 (0 : Int32) from by decide), hI⟩
set_option maxRecDepth 100000 in
set_option maxHeartbeats 4000000 in
theorem okX4_takeInterrupt (l : Launch) (D : va_G) (cI cJ cP : ClassId) (ad : Nat → Nat) (sz : Nat) (x : TR)  (hI : iR x) : Met l yX4_takeInterrupt (Cond.code yX4_takeInterrupt cX4_takeInterrupt 2 (some .int) :: gG) { frames := 0, cells := 0, slots := 0, locals := 0 } (va_Pc [.ref (ad 0)] (PRE D (tz cI cJ cP) sz (wR cI cJ cP ad x))) (va_Qi (fun (r : Int32) (u : TR) => (r, u) = fnX4_takeInterrupt x) (AT D (tz cI cJ cP) (va_A (wR cI cJ cP ad x) sz) (fun (u : TR) => (wR cI cJ cP ad u))) (va_A (wR cI cJ cP ad x) sz)) 0 0 (va_A (wR cI cJ cP ad x) sz) := by
  refine mo (QA := fun A => va_Qi (fun (r : Int32) (u : TR) => (r, u) = fnX4_takeInterrupt x) (AT D (tz cI cJ cP) A (fun (u : TR) => (wR cI cJ cP ad u))) A) (by decide) (Nat.le_of_ble_eq_true rfl) ?_
  intro p e s m below meth c A ls H hx hb hr hml hown hG hlocks hnm hA hS hP hK hD hl hN
  have hown : s.vm.findClass RX4 = some m.cls := hown
  have hl : lv_has ls 2 [(0, .ref (ad 0))] := hl
  refine lv_aload_n hx hb dX4_takeInterrupt_0 rfl (lv_at hl 0 rfl) ?_
  refine va_get (D := D) (ci := 4) (v := .int (x.2.1.2.1)) hx hb hG inX4 hown hK hP 0 rfl rfl 9 (by decide) (hG _ kw96) (fun _ h9 => h9) rfl dX4_takeInterrupt_1 ?_
  refine lv_if_ne (tgt := 14) hx hb dX4_takeInterrupt_4 (by decide) (fun h1 => ?_) (fun h1 => ?_)
  · refine lv_iconst (v := 0) hx hb dX4_takeInterrupt_14 (by decide) ?_
    exact reti (u := x) hx hb hr hlocks hK hP hD hS dX4_takeInterrupt_15 (by unfold fnX4_takeInterrupt; (try dsimp only); rw [if_neg h1]; (try exact rfl))
  · refine lv_aload_n hx hb dX4_takeInterrupt_7 rfl (lv_at hl 0 rfl) ?_
    refine va_get (D := D) (ci := 4) (v := .int (x.2.1.2.2.2.2.2.2)) hx hb hG inX4 hown hK hP 0 rfl rfl 14 (by decide) (hG _ kw159) (fun _ h9 => h9) rfl dX4_takeInterrupt_8 ?_
    refine lv_if_ne (tgt := 16) hx hb dX4_takeInterrupt_11 (by decide) (fun h2 => ?_) (fun h2 => ?_)
    · refine lv_iconst (v := 0) hx hb dX4_takeInterrupt_16 (by decide) ?_
      refine lv_istore_n (lv' := [(1, .int ((0 : Int32))), (0, .ref (ad 0))]) hx hb dX4_takeInterrupt_17 rfl hl (by decide) rfl (fun ls hl => ?_)
      refine lv_iload_n hx hb dX4_takeInterrupt_18 rfl (lv_at hl 0 rfl) ?_
      refine lv_iconst (v := 3) hx hb dX4_takeInterrupt_19 (by decide) ?_
      refine lv_icmp_ge (tgt := 40) hx hb dX4_takeInterrupt_20 (by decide) (fun h9 => absurd h9 (by decide)) (fun _ => ?_)
      refine lv_aload_n hx hb dX4_takeInterrupt_23 rfl (lv_at hl 1 rfl) ?_
      refine va_get (D := D) (ci := 4) (v := .int (x.2.1.2.2.2.2.2.2)) hx hb hG inX4 hown hK hP 0 rfl rfl 14 (by decide) (hG _ kw159) (fun _ h9 => h9) rfl dX4_takeInterrupt_24 ?_
      refine lv_iconst (v := 1) hx hb dX4_takeInterrupt_27 (by decide) ?_
      refine lv_iload_n hx hb dX4_takeInterrupt_28 rfl (lv_at hl 0 rfl) ?_
      refine lv_ishl hx hb dX4_takeInterrupt_29 ?_
      refine tI (y := 1) (by decide) ?_
      refine lv_iand hx hb dX4_takeInterrupt_30 ?_
      refine lv_if_ne (tgt := 40) hx hb dX4_takeInterrupt_31 (by decide) (fun h3 => ?_) (fun h3 => ?_)
      · refine lv_aload_n hx hb dX4_takeInterrupt_40 rfl (lv_at hl 1 rfl) ?_
        refine lv_dup hx hb dX4_takeInterrupt_41 rfl ?_
        refine va_get (D := D) (ci := 4) (v := .int (x.2.1.2.2.2.2.2.2)) hx hb hG inX4 hown hK hP 0 rfl rfl 14 (by decide) (hG _ kw159) (fun _ h9 => h9) rfl dX4_takeInterrupt_42 ?_
        refine lv_iconst (v := 1) hx hb dX4_takeInterrupt_45 (by decide) ?_
        refine lv_iload_n hx hb dX4_takeInterrupt_46 rfl (lv_at hl 0 rfl) ?_
        refine lv_ishl hx hb dX4_takeInterrupt_47 ?_
        refine tI (y := 1) (by decide) ?_
        refine lv_iconst (v := (-1)) hx hb dX4_takeInterrupt_48 (by decide) ?_
        refine lv_ixor hx hb dX4_takeInterrupt_49 ?_
        refine tI (y := (-2)) (by decide) ?_
        refine lv_iand hx hb dX4_takeInterrupt_50 ?_
        refine pu (D := D) (ci := 4) (v := .int ((x.2.1.2.2.2.2.2.2 &&& (-2 : Int32)))) (ty := .int) (W' := (wR cI cJ cP ad (x.1, (x.2.1.1, x.2.1.2.1, x.2.1.2.2.1, x.2.1.2.2.2.1, x.2.1.2.2.2.2.1, x.2.1.2.2.2.2.2.1, (x.2.1.2.2.2.2.2.2 &&& (-2 : Int32))), x.2.2.1, x.2.2.2.1, x.2.2.2.2.1, x.2.2.2.2.2.1, x.2.2.2.2.2.2.1, x.2.2.2.2.2.2.2))) hx hb hG inX4 tyX4 tyokX4 nmX4 hown hK hP hD hS 0 rfl rfl 14 (by decide) (hG _ kw159) (fun _ h9 => h9) rfl (by decide +kernel) rfl rfl (Nat.le_of_ble_eq_true rfl) dX4_takeInterrupt_51 rfl (fun H locs hP hD hS => ?_)
        refine lv_bipush (v := 8) hx hb dX4_takeInterrupt_54 (by decide) ?_
        refine lv_iload_n hx hb dX4_takeInterrupt_56 rfl (lv_at hl 0 rfl) ?_
        refine lv_iadd hx hb dX4_takeInterrupt_57 ?_
        refine tI (y := 8) (by decide) ?_
        exact reti (u := (x.1, (x.2.1.1, x.2.1.2.1, x.2.1.2.2.1, x.2.1.2.2.2.1, x.2.1.2.2.2.2.1, x.2.1.2.2.2.2.2.1, (x.2.1.2.2.2.2.2.2 &&& (-2 : Int32))), x.2.2.1, x.2.2.2.1, x.2.2.2.2.1, x.2.2.2.2.2.1, x.2.2.2.2.2.2.1, x.2.2.2.2.2.2.2)) hx hb hr hlocks hK hP hD hS dX4_takeInterrupt_58 (by unfold fnX4_takeInterrupt; (try dsimp only); rw [if_pos h1]; rw [if_neg h2]; rw [if_neg h3]; (try exact rfl))
      · refine lv_iinc (k := 0) (v := (1 : Int32)) (lv' := [(1, .int ((1 : Int32))), (0, .ref (ad 0))]) hx hb dX4_takeInterrupt_34 hl rfl (by decide) (by decide) rfl (fun ls hl => ?_)
        refine lv_goto (tgt := 18) hx hb dX4_takeInterrupt_37 (by decide) ?_
        refine lv_iload_n hx hb dX4_takeInterrupt_18 rfl (lv_at hl 0 rfl) ?_
        refine lv_iconst (v := 3) hx hb dX4_takeInterrupt_19 (by decide) ?_
        refine lv_icmp_ge (tgt := 40) hx hb dX4_takeInterrupt_20 (by decide) (fun h9 => absurd h9 (by decide)) (fun _ => ?_)
        refine lv_aload_n hx hb dX4_takeInterrupt_23 rfl (lv_at hl 1 rfl) ?_
        refine va_get (D := D) (ci := 4) (v := .int (x.2.1.2.2.2.2.2.2)) hx hb hG inX4 hown hK hP 0 rfl rfl 14 (by decide) (hG _ kw159) (fun _ h9 => h9) rfl dX4_takeInterrupt_24 ?_
        refine lv_iconst (v := 1) hx hb dX4_takeInterrupt_27 (by decide) ?_
        refine lv_iload_n hx hb dX4_takeInterrupt_28 rfl (lv_at hl 0 rfl) ?_
        refine lv_ishl hx hb dX4_takeInterrupt_29 ?_
        refine tI (y := 2) (by decide) ?_
        refine lv_iand hx hb dX4_takeInterrupt_30 ?_
        refine lv_if_ne (tgt := 40) hx hb dX4_takeInterrupt_31 (by decide) (fun h4 => ?_) (fun h4 => ?_)
        · refine lv_aload_n hx hb dX4_takeInterrupt_40 rfl (lv_at hl 1 rfl) ?_
          refine lv_dup hx hb dX4_takeInterrupt_41 rfl ?_
          refine va_get (D := D) (ci := 4) (v := .int (x.2.1.2.2.2.2.2.2)) hx hb hG inX4 hown hK hP 0 rfl rfl 14 (by decide) (hG _ kw159) (fun _ h9 => h9) rfl dX4_takeInterrupt_42 ?_
          refine lv_iconst (v := 1) hx hb dX4_takeInterrupt_45 (by decide) ?_
          refine lv_iload_n hx hb dX4_takeInterrupt_46 rfl (lv_at hl 0 rfl) ?_
          refine lv_ishl hx hb dX4_takeInterrupt_47 ?_
          refine tI (y := 2) (by decide) ?_
          refine lv_iconst (v := (-1)) hx hb dX4_takeInterrupt_48 (by decide) ?_
          refine lv_ixor hx hb dX4_takeInterrupt_49 ?_
          refine tI (y := (-3)) (by decide) ?_
          refine lv_iand hx hb dX4_takeInterrupt_50 ?_
          refine pu (D := D) (ci := 4) (v := .int ((x.2.1.2.2.2.2.2.2 &&& (-3 : Int32)))) (ty := .int) (W' := (wR cI cJ cP ad (x.1, (x.2.1.1, x.2.1.2.1, x.2.1.2.2.1, x.2.1.2.2.2.1, x.2.1.2.2.2.2.1, x.2.1.2.2.2.2.2.1, (x.2.1.2.2.2.2.2.2 &&& (-3 : Int32))), x.2.2.1, x.2.2.2.1, x.2.2.2.2.1, x.2.2.2.2.2.1, x.2.2.2.2.2.2.1, x.2.2.2.2.2.2.2))) hx hb hG inX4 tyX4 tyokX4 nmX4 hown hK hP hD hS 0 rfl rfl 14 (by decide) (hG _ kw159) (fun _ h9 => h9) rfl (by decide +kernel) rfl rfl (Nat.le_of_ble_eq_true rfl) dX4_takeInterrupt_51 rfl (fun H locs hP hD hS => ?_)
          refine lv_bipush (v := 8) hx hb dX4_takeInterrupt_54 (by decide) ?_
          refine lv_iload_n hx hb dX4_takeInterrupt_56 rfl (lv_at hl 0 rfl) ?_
          refine lv_iadd hx hb dX4_takeInterrupt_57 ?_
          refine tI (y := 9) (by decide) ?_
          exact reti (u := (x.1, (x.2.1.1, x.2.1.2.1, x.2.1.2.2.1, x.2.1.2.2.2.1, x.2.1.2.2.2.2.1, x.2.1.2.2.2.2.2.1, (x.2.1.2.2.2.2.2.2 &&& (-3 : Int32))), x.2.2.1, x.2.2.2.1, x.2.2.2.2.1, x.2.2.2.2.2.1, x.2.2.2.2.2.2.1, x.2.2.2.2.2.2.2)) hx hb hr hlocks hK hP hD hS dX4_takeInterrupt_58 (by unfold fnX4_takeInterrupt; (try dsimp only); rw [if_pos h1]; rw [if_neg h2]; rw [if_pos h3]; rw [if_neg h4]; (try exact rfl))
        · refine lv_iinc (k := 0) (v := (2 : Int32)) (lv' := [(1, .int ((2 : Int32))), (0, .ref (ad 0))]) hx hb dX4_takeInterrupt_34 hl rfl (by decide) (by decide) rfl (fun ls hl => ?_)
          refine lv_goto (tgt := 18) hx hb dX4_takeInterrupt_37 (by decide) ?_
          refine lv_iload_n hx hb dX4_takeInterrupt_18 rfl (lv_at hl 0 rfl) ?_
          refine lv_iconst (v := 3) hx hb dX4_takeInterrupt_19 (by decide) ?_
          refine lv_icmp_ge (tgt := 40) hx hb dX4_takeInterrupt_20 (by decide) (fun h9 => absurd h9 (by decide)) (fun _ => ?_)
          refine lv_aload_n hx hb dX4_takeInterrupt_23 rfl (lv_at hl 1 rfl) ?_
          refine va_get (D := D) (ci := 4) (v := .int (x.2.1.2.2.2.2.2.2)) hx hb hG inX4 hown hK hP 0 rfl rfl 14 (by decide) (hG _ kw159) (fun _ h9 => h9) rfl dX4_takeInterrupt_24 ?_
          refine lv_iconst (v := 1) hx hb dX4_takeInterrupt_27 (by decide) ?_
          refine lv_iload_n hx hb dX4_takeInterrupt_28 rfl (lv_at hl 0 rfl) ?_
          refine lv_ishl hx hb dX4_takeInterrupt_29 ?_
          refine tI (y := 4) (by decide) ?_
          refine lv_iand hx hb dX4_takeInterrupt_30 ?_
          refine lv_if_ne (tgt := 40) hx hb dX4_takeInterrupt_31 (by decide) (fun h5 => ?_) (fun h5 => ?_)
          · refine lv_aload_n hx hb dX4_takeInterrupt_40 rfl (lv_at hl 1 rfl) ?_
            refine lv_dup hx hb dX4_takeInterrupt_41 rfl ?_
            refine va_get (D := D) (ci := 4) (v := .int (x.2.1.2.2.2.2.2.2)) hx hb hG inX4 hown hK hP 0 rfl rfl 14 (by decide) (hG _ kw159) (fun _ h9 => h9) rfl dX4_takeInterrupt_42 ?_
            refine lv_iconst (v := 1) hx hb dX4_takeInterrupt_45 (by decide) ?_
            refine lv_iload_n hx hb dX4_takeInterrupt_46 rfl (lv_at hl 0 rfl) ?_
            refine lv_ishl hx hb dX4_takeInterrupt_47 ?_
            refine tI (y := 4) (by decide) ?_
            refine lv_iconst (v := (-1)) hx hb dX4_takeInterrupt_48 (by decide) ?_
            refine lv_ixor hx hb dX4_takeInterrupt_49 ?_
            refine tI (y := (-5)) (by decide) ?_
            refine lv_iand hx hb dX4_takeInterrupt_50 ?_
            refine pu (D := D) (ci := 4) (v := .int ((x.2.1.2.2.2.2.2.2 &&& (-5 : Int32)))) (ty := .int) (W' := (wR cI cJ cP ad (x.1, (x.2.1.1, x.2.1.2.1, x.2.1.2.2.1, x.2.1.2.2.2.1, x.2.1.2.2.2.2.1, x.2.1.2.2.2.2.2.1, (x.2.1.2.2.2.2.2.2 &&& (-5 : Int32))), x.2.2.1, x.2.2.2.1, x.2.2.2.2.1, x.2.2.2.2.2.1, x.2.2.2.2.2.2.1, x.2.2.2.2.2.2.2))) hx hb hG inX4 tyX4 tyokX4 nmX4 hown hK hP hD hS 0 rfl rfl 14 (by decide) (hG _ kw159) (fun _ h9 => h9) rfl (by decide +kernel) rfl rfl (Nat.le_of_ble_eq_true rfl) dX4_takeInterrupt_51 rfl (fun H locs hP hD hS => ?_)
            refine lv_bipush (v := 8) hx hb dX4_takeInterrupt_54 (by decide) ?_
            refine lv_iload_n hx hb dX4_takeInterrupt_56 rfl (lv_at hl 0 rfl) ?_
            refine lv_iadd hx hb dX4_takeInterrupt_57 ?_
            refine tI (y := 10) (by decide) ?_
            exact reti (u := (x.1, (x.2.1.1, x.2.1.2.1, x.2.1.2.2.1, x.2.1.2.2.2.1, x.2.1.2.2.2.2.1, x.2.1.2.2.2.2.2.1, (x.2.1.2.2.2.2.2.2 &&& (-5 : Int32))), x.2.2.1, x.2.2.2.1, x.2.2.2.2.1, x.2.2.2.2.2.1, x.2.2.2.2.2.2.1, x.2.2.2.2.2.2.2)) hx hb hr hlocks hK hP hD hS dX4_takeInterrupt_58 (by unfold fnX4_takeInterrupt; (try dsimp only); rw [if_pos h1]; rw [if_neg h2]; rw [if_pos h3]; rw [if_pos h4]; rw [if_neg h5]; (try exact rfl))
          · refine lv_iinc (k := 0) (v := (3 : Int32)) (lv' := [(1, .int ((3 : Int32))), (0, .ref (ad 0))]) hx hb dX4_takeInterrupt_34 hl rfl (by decide) (by decide) rfl (fun ls hl => ?_)
            refine lv_goto (tgt := 18) hx hb dX4_takeInterrupt_37 (by decide) ?_
            refine lv_iload_n hx hb dX4_takeInterrupt_18 rfl (lv_at hl 0 rfl) ?_
            refine lv_iconst (v := 3) hx hb dX4_takeInterrupt_19 (by decide) ?_
            refine lv_icmp_ge (tgt := 40) hx hb dX4_takeInterrupt_20 (by decide) (fun _ => ?_) (fun h9 => absurd (by decide) h9)
            refine lv_aload_n hx hb dX4_takeInterrupt_40 rfl (lv_at hl 1 rfl) ?_
            refine lv_dup hx hb dX4_takeInterrupt_41 rfl ?_
            refine va_get (D := D) (ci := 4) (v := .int (x.2.1.2.2.2.2.2.2)) hx hb hG inX4 hown hK hP 0 rfl rfl 14 (by decide) (hG _ kw159) (fun _ h9 => h9) rfl dX4_takeInterrupt_42 ?_
            refine lv_iconst (v := 1) hx hb dX4_takeInterrupt_45 (by decide) ?_
            refine lv_iload_n hx hb dX4_takeInterrupt_46 rfl (lv_at hl 0 rfl) ?_
            refine lv_ishl hx hb dX4_takeInterrupt_47 ?_
            refine tI (y := 8) (by decide) ?_
            refine lv_iconst (v := (-1)) hx hb dX4_takeInterrupt_48 (by decide) ?_
            refine lv_ixor hx hb dX4_takeInterrupt_49 ?_
            refine tI (y := (-9)) (by decide) ?_
            refine lv_iand hx hb dX4_takeInterrupt_50 ?_
            refine pu (D := D) (ci := 4) (v := .int ((x.2.1.2.2.2.2.2.2 &&& (-9 : Int32)))) (ty := .int) (W' := (wR cI cJ cP ad (x.1, (x.2.1.1, x.2.1.2.1, x.2.1.2.2.1, x.2.1.2.2.2.1, x.2.1.2.2.2.2.1, x.2.1.2.2.2.2.2.1, (x.2.1.2.2.2.2.2.2 &&& (-9 : Int32))), x.2.2.1, x.2.2.2.1, x.2.2.2.2.1, x.2.2.2.2.2.1, x.2.2.2.2.2.2.1, x.2.2.2.2.2.2.2))) hx hb hG inX4 tyX4 tyokX4 nmX4 hown hK hP hD hS 0 rfl rfl 14 (by decide) (hG _ kw159) (fun _ h9 => h9) rfl (by decide +kernel) rfl rfl (Nat.le_of_ble_eq_true rfl) dX4_takeInterrupt_51 rfl (fun H locs hP hD hS => ?_)
            refine lv_bipush (v := 8) hx hb dX4_takeInterrupt_54 (by decide) ?_
            refine lv_iload_n hx hb dX4_takeInterrupt_56 rfl (lv_at hl 0 rfl) ?_
            refine lv_iadd hx hb dX4_takeInterrupt_57 ?_
            refine tI (y := 11) (by decide) ?_
            exact reti (u := (x.1, (x.2.1.1, x.2.1.2.1, x.2.1.2.2.1, x.2.1.2.2.2.1, x.2.1.2.2.2.2.1, x.2.1.2.2.2.2.2.1, (x.2.1.2.2.2.2.2.2 &&& (-9 : Int32))), x.2.2.1, x.2.2.2.1, x.2.2.2.2.1, x.2.2.2.2.2.1, x.2.2.2.2.2.2.1, x.2.2.2.2.2.2.2)) hx hb hr hlocks hK hP hD hS dX4_takeInterrupt_58 (by unfold fnX4_takeInterrupt; (try dsimp only); rw [if_pos h1]; rw [if_neg h2]; rw [if_pos h3]; rw [if_pos h4]; rw [if_pos h5]; (try exact rfl))
    · refine lv_iconst (v := 0) hx hb dX4_takeInterrupt_14 (by decide) ?_
      exact reti (u := x) hx hb hr hlocks hK hP hD hS dX4_takeInterrupt_15 (by unfold fnX4_takeInterrupt; (try dsimp only); rw [if_pos h1]; rw [if_pos h2]; (try exact rfl))
def fnX4_enter (x : TR) (a0 : Int32) : TR :=
  if (4 : Int32) < a0 then
   if x.2.1.2.1 = (0 : Int32) then
    let p3 := fnX2_become x.2.2.2.2.2.2.1 x.2.2.2.2.1
    (x.1, ((1 : Int32), (1 : Int32), x.2.1.2.2.1, a0, x.2.2.2.2.1.1, x.2.2.2.2.1.2.1, x.2.1.2.2.2.2.2.2), x.2.2.1, x.2.2.2.1, ((0 : Int32), ((16 : Int32) + a0), (0 : Int32)), x.2.2.2.2.2.1, p3, x.2.2.2.2.2.2.2)
   else
    (x.1, (x.2.1.1, x.2.1.2.1, (1 : Int32), a0, x.2.2.2.2.1.1, x.2.2.2.2.1.2.1, x.2.1.2.2.2.2.2.2), x.2.2.1, x.2.2.2.1, x.2.2.2.2.1, x.2.2.2.2.2.1, x.2.2.2.2.2.2.1, x.2.2.2.2.2.2.2)
  else
   if x.2.1.2.1 = (0 : Int32) then
    let p5 := fnX2_become x.2.2.2.2.2.2.1 x.2.2.2.2.1
    (x.1, ((1 : Int32), (1 : Int32), x.2.1.2.2.1, a0, x.2.2.2.2.2.1.1, x.2.2.2.2.2.1.2.1, x.2.1.2.2.2.2.2.2), x.2.2.1, x.2.2.2.1, ((0 : Int32), ((16 : Int32) + a0), (0 : Int32)), x.2.2.2.2.2.1, p5, x.2.2.2.2.2.2.2)
   else
    (x.1, (x.2.1.1, x.2.1.2.1, (1 : Int32), a0, x.2.2.2.2.2.1.1, x.2.2.2.2.2.1.2.1, x.2.1.2.2.2.2.2.2), x.2.2.1, x.2.2.2.1, x.2.2.2.2.1, x.2.2.2.2.2.1, x.2.2.2.2.2.2.1, x.2.2.2.2.2.2.2)
abbrev ivX4_enterP (z : TR) : Prop := iR z
set_option maxRecDepth 100000 in
set_option maxHeartbeats 4000000 in
theorem ivX4_enter (x : TR) (a0 : Int32) (hI : iR x) (g0 : i4 a0) : ivX4_enterP (fnX4_enter x a0) := by
  unfold fnX4_enter
  try dsimp only
  refine iteI (fun h1 => ?_) (fun h1 => ?_)
  · refine iteI (fun h2 => ?_) (fun h2 => ?_)
    · have j3 : ivX2_becomeP (fnX2_become x.2.2.2.2.2.2.1 x.2.2.2.2.1) := ivX2_become x.2.2.2.2.2.2.1 x.2.2.2.2.1 hI.2.2.2.2.2.2.1 hI.2.2.2.2.1
      generalize fnX2_become x.2.2.2.2.2.2.1 x.2.2.2.2.1 = p3 at j3 ⊢
      exact ⟨hI.1, hI.2.1, hI.2.2.1, hI.2.2.2.1, ⟨(show i4 (0 : Int32) from by decide), (ent g0), (show i3 (0 : Int32) from by decide)⟩, hI.2.2.2.2.2.1, j3, hI.2.2.2.2.2.2.2⟩
    · exact ⟨hI.1, hI.2.1, hI.2.2.1, hI.2.2.2.1, hI.2.2.2.2.1, hI.2.2.2.2.2.1, hI.2.2.2.2.2.2.1, hI.2.2.2.2.2.2.2⟩
  · refine iteI (fun h4 => ?_) (fun h4 => ?_)
    · have j5 : ivX2_becomeP (fnX2_become x.2.2.2.2.2.2.1 x.2.2.2.2.1) := ivX2_become x.2.2.2.2.2.2.1 x.2.2.2.2.1 hI.2.2.2.2.2.2.1 hI.2.2.2.2.1
      generalize fnX2_become x.2.2.2.2.2.2.1 x.2.2.2.2.1 = p5 at j5 ⊢
      exact ⟨hI.1, hI.2.1, hI.2.2.1, hI.2.2.2.1, ⟨(show i4 (0 : Int32) from by decide), (ent g0), (show i3 (0 : Int32) from by decide)⟩, hI.2.2.2.2.2.1, j5, hI.2.2.2.2.2.2.2⟩
    · exact ⟨hI.1, hI.2.1, hI.2.2.1, hI.2.2.2.1, hI.2.2.2.2.1, hI.2.2.2.2.2.1, hI.2.2.2.2.2.2.1, hI.2.2.2.2.2.2.2⟩
set_option maxRecDepth 100000 in
set_option maxHeartbeats 4000000 in
theorem okX4_enter (l : Launch) (D : va_G) (cI cJ cP : ClassId) (ad : Nat → Nat) (sz : Nat) (x : TR) (a0 : Int32) (hI : iR x) (g0 : i4 a0) : Met l yX4_enter (Cond.code yX4_enter cX4_enter 3 none :: gG) { frames := 1, cells := 0, slots := 0, locals := 21 } (va_Pc [.ref (ad 0), .int a0] (PRE D (tz cI cJ cP) sz (wR cI cJ cP ad x))) (va_Qv (fun (u : TR) => u = fnX4_enter x a0) (AT D (tz cI cJ cP) (va_A (wR cI cJ cP ad x) sz) (fun (u : TR) => (wR cI cJ cP ad u))) (va_A (wR cI cJ cP ad x) sz)) 0 0 (va_A (wR cI cJ cP ad x) sz) := by
  refine mo (QA := fun A => va_Qv (fun (u : TR) => u = fnX4_enter x a0) (AT D (tz cI cJ cP) A (fun (u : TR) => (wR cI cJ cP ad u))) A) (by decide) (Nat.le_of_ble_eq_true rfl) ?_
  intro p e s m below meth c A ls H hx hb hr hml hown hG hlocks hnm hA hS hP hK hD hl hN
  have hown : s.vm.findClass RX4 = some m.cls := hown
  have hl : lv_has ls 3 [(0, .ref (ad 0)), (1, .int a0)] := hl
  refine lv_iload_n hx hb dX4_enter_0 rfl (lv_at hl 1 rfl) ?_
  refine lv_iconst (v := 4) hx hb dX4_enter_1 (by decide) ?_
  refine lv_icmp_gt (tgt := 12) hx hb dX4_enter_2 (by decide) (fun h1 => ?_) (fun h1 => ?_)
  · refine lv_aload_n hx hb dX4_enter_12 rfl (lv_at hl 0 rfl) ?_
    refine va_get (D := D) (ci := 4) (v := .ref (ad 19)) hx hb hG inX4 hown hK hP 0 rfl rfl 5 (by decide) (hG _ kw87) (fun _ h9 => h9) rfl dX4_enter_13 ?_
    refine lv_astore_n (lv' := [(2, .ref (ad 19)), (0, .ref (ad 0)), (1, .int (a0))]) hx hb dX4_enter_16 rfl hl (by decide) rfl (fun ls hl => ?_)
    refine lv_aload_n hx hb dX4_enter_17 rfl (lv_at hl 1 rfl) ?_
    refine lv_iload_n hx hb dX4_enter_18 rfl (lv_at hl 2 rfl) ?_
    refine pu (D := D) (ci := 4) (v := .int (a0)) (ty := .int) (W' := (wR cI cJ cP ad (x.1, (x.2.1.1, x.2.1.2.1, x.2.1.2.2.1, a0, x.2.1.2.2.2.2.1, x.2.1.2.2.2.2.2.1, x.2.1.2.2.2.2.2.2), x.2.2.1, x.2.2.2.1, x.2.2.2.2.1, x.2.2.2.2.2.1, x.2.2.2.2.2.2.1, x.2.2.2.2.2.2.2))) hx hb hG inX4 tyX4 tyokX4 nmX4 hown hK hP hD hS 0 rfl rfl 11 (by decide) (hG _ kw160) (fun _ h9 => h9) rfl (by decide +kernel) rfl rfl (Nat.le_of_ble_eq_true rfl) dX4_enter_19 rfl (fun H locs hP hD hS => ?_)
    refine lv_aload_n hx hb dX4_enter_22 rfl (lv_at hl 1 rfl) ?_
    refine lv_aload_n hx hb dX4_enter_23 rfl (lv_at hl 0 rfl) ?_
    refine va_get (D := D) (ci := 2) (v := .int (x.2.2.2.2.1.1)) hx hb hG inX2 hown hK hP 19 rfl rfl 0 (by decide) (hG _ kw141) (fun _ h9 => h9) rfl dX4_enter_24 ?_
    refine pu (D := D) (ci := 4) (v := .int (x.2.2.2.2.1.1)) (ty := .int) (W' := (wR cI cJ cP ad (x.1, (x.2.1.1, x.2.1.2.1, x.2.1.2.2.1, a0, x.2.2.2.2.1.1, x.2.1.2.2.2.2.2.1, x.2.1.2.2.2.2.2.2), x.2.2.1, x.2.2.2.1, x.2.2.2.2.1, x.2.2.2.2.2.1, x.2.2.2.2.2.2.1, x.2.2.2.2.2.2.2))) hx hb hG inX4 tyX4 tyokX4 nmX4 hown hK hP hD hS 0 rfl rfl 12 (by decide) (hG _ kw161) (fun _ h9 => h9) rfl (by decide +kernel) rfl rfl (Nat.le_of_ble_eq_true rfl) dX4_enter_27 rfl (fun H locs hP hD hS => ?_)
    refine lv_aload_n hx hb dX4_enter_30 rfl (lv_at hl 1 rfl) ?_
    refine lv_aload_n hx hb dX4_enter_31 rfl (lv_at hl 0 rfl) ?_
    refine va_get (D := D) (ci := 2) (v := .int (x.2.2.2.2.1.2.1)) hx hb hG inX2 hown hK hP 19 rfl rfl 1 (by decide) (hG _ kw88) (fun _ h9 => h9) rfl dX4_enter_32 ?_
    refine pu (D := D) (ci := 4) (v := .int (x.2.2.2.2.1.2.1)) (ty := .int) (W' := (wR cI cJ cP ad (x.1, (x.2.1.1, x.2.1.2.1, x.2.1.2.2.1, a0, x.2.2.2.2.1.1, x.2.2.2.2.1.2.1, x.2.1.2.2.2.2.2.2), x.2.2.1, x.2.2.2.1, x.2.2.2.2.1, x.2.2.2.2.2.1, x.2.2.2.2.2.2.1, x.2.2.2.2.2.2.2))) hx hb hG inX4 tyX4 tyokX4 nmX4 hown hK hP hD hS 0 rfl rfl 13 (by decide) (hG _ kw162) (fun _ h9 => h9) rfl (by decide +kernel) rfl rfl (Nat.le_of_ble_eq_true rfl) dX4_enter_35 rfl (fun H locs hP hD hS => ?_)
    refine lv_aload_n hx hb dX4_enter_38 rfl (lv_at hl 1 rfl) ?_
    refine va_get (D := D) (ci := 4) (v := .int (x.2.1.2.1)) hx hb hG inX4 hown hK hP 0 rfl rfl 9 (by decide) (hG _ kw96) (fun _ h9 => h9) rfl dX4_enter_39 ?_
    refine lv_if_eq (tgt := 51) hx hb dX4_enter_42 (by decide) (fun h2 => ?_) (fun h2 => ?_)
    · refine lv_aload_n hx hb dX4_enter_51 rfl (lv_at hl 1 rfl) ?_
      refine va_get (D := D) (ci := 4) (v := .ref (ad 20)) hx hb hG inX4 hown hK hP 0 rfl rfl 7 (by decide) (hG _ kw97) (fun _ h9 => h9) rfl dX4_enter_52 ?_
      refine lv_aload_n hx hb dX4_enter_55 rfl (lv_at hl 1 rfl) ?_
      refine va_get (D := D) (ci := 4) (v := .ref (ad 19)) hx hb hG inX4 hown hK hP 0 rfl rfl 5 (by decide) (hG _ kw87) (fun _ h9 => h9) rfl dX4_enter_56 ?_
      refine kVv (As := [.ref (ad 19)]) (rest := []) (W' := (fun u3 => (wR cI cJ cP ad (x.1, (x.2.1.1, x.2.1.2.1, x.2.1.2.2.1, a0, x.2.2.2.2.1.1, x.2.2.2.2.1.2.1, x.2.1.2.2.2.2.2.2), x.2.2.1, x.2.2.2.1, x.2.2.2.2.1, x.2.2.2.2.2.1, u3, x.2.2.2.2.2.2.2)))) hx hb hml hown hG hl (okX2_become l D cI cJ cP (ad 20) (ad 19) H.size x.2.2.2.2.2.2.1 x.2.2.2.2.1 hI.2.2.2.2.2.2.1 hI.2.2.2.2.1) (cV 1 hG kw98 kw100 kw101 kw102 kw99 hdX2_become ⟨by decide, by decide⟩) 20 2 rfl rfl hK hP hD hS hA hN [20, 19] rfl rfl rfl (fun _ => rfl) (fun _ => rfl) rfl rfl (Nat.le_of_ble_eq_true rfl) dX4_enter_59 ⟨Nat.zero_le _, Nat.zero_le _⟩ (fun u3 q3 H locs hP hD hS => ?_)
      have j3 : ivX2_becomeP u3 := by rw [q3]; exact ivX2_become x.2.2.2.2.2.2.1 x.2.2.2.2.1 hI.2.2.2.2.2.2.1 hI.2.2.2.2.1
      refine lv_aload_n hx hb dX4_enter_62 rfl (lv_at hl 1 rfl) ?_
      refine lv_iconst (v := 1) hx hb dX4_enter_63 (by decide) ?_
      refine pu (D := D) (ci := 4) (v := .int ((1 : Int32))) (ty := .boolean) (W' := (wR cI cJ cP ad (x.1, ((1 : Int32), x.2.1.2.1, x.2.1.2.2.1, a0, x.2.2.2.2.1.1, x.2.2.2.2.1.2.1, x.2.1.2.2.2.2.2.2), x.2.2.1, x.2.2.2.1, x.2.2.2.2.1, x.2.2.2.2.2.1, u3, x.2.2.2.2.2.2.2))) hx hb hG inX4 tyX4 tyokX4 nmX4 hown hK hP hD hS 0 rfl rfl 8 (by decide) (hG _ kw163) (fun _ h9 => h9) rfl (by decide +kernel) rfl rfl (Nat.le_of_ble_eq_true rfl) dX4_enter_64 rfl (fun H locs hP hD hS => ?_)
      refine lv_aload_n hx hb dX4_enter_67 rfl (lv_at hl 1 rfl) ?_
      refine lv_iconst (v := 1) hx hb dX4_enter_68 (by decide) ?_
      refine pu (D := D) (ci := 4) (v := .int ((1 : Int32))) (ty := .boolean) (W' := (wR cI cJ cP ad (x.1, ((1 : Int32), (1 : Int32), x.2.1.2.2.1, a0, x.2.2.2.2.1.1, x.2.2.2.2.1.2.1, x.2.1.2.2.2.2.2.2), x.2.2.1, x.2.2.2.1, x.2.2.2.2.1, x.2.2.2.2.2.1, u3, x.2.2.2.2.2.2.2))) hx hb hG inX4 tyX4 tyokX4 nmX4 hown hK hP hD hS 0 rfl rfl 9 (by decide) (hG _ kw96) (fun _ h9 => h9) rfl (by decide +kernel) rfl rfl (Nat.le_of_ble_eq_true rfl) dX4_enter_69 rfl (fun H locs hP hD hS => ?_)
      refine lv_aload_n hx hb dX4_enter_72 rfl (lv_at hl 1 rfl) ?_
      refine va_get (D := D) (ci := 4) (v := .ref (ad 19)) hx hb hG inX4 hown hK hP 0 rfl rfl 5 (by decide) (hG _ kw87) (fun _ h9 => h9) rfl dX4_enter_73 ?_
      refine lv_iconst (v := 0) hx hb dX4_enter_76 (by decide) ?_
      refine pu (D := D) (ci := 2) (v := .int ((0 : Int32))) (ty := .int) (W' := (wR cI cJ cP ad (x.1, ((1 : Int32), (1 : Int32), x.2.1.2.2.1, a0, x.2.2.2.2.1.1, x.2.2.2.2.1.2.1, x.2.1.2.2.2.2.2.2), x.2.2.1, x.2.2.2.1, ((0 : Int32), x.2.2.2.2.1.2.1, x.2.2.2.2.1.2.2), x.2.2.2.2.2.1, u3, x.2.2.2.2.2.2.2))) hx hb hG inX2 tyX2 tyokX2 nmX2 hown hK hP hD hS 19 rfl rfl 0 (by decide) (hG _ kw141) (fun _ h9 => h9) rfl (by decide +kernel) rfl rfl (Nat.le_of_ble_eq_true rfl) dX4_enter_77 rfl (fun H locs hP hD hS => ?_)
      refine lv_aload_n hx hb dX4_enter_80 rfl (lv_at hl 1 rfl) ?_
      refine va_get (D := D) (ci := 4) (v := .ref (ad 19)) hx hb hG inX4 hown hK hP 0 rfl rfl 5 (by decide) (hG _ kw87) (fun _ h9 => h9) rfl dX4_enter_81 ?_
      refine lv_bipush (v := 16) hx hb dX4_enter_84 (by decide) ?_
      refine lv_iload_n hx hb dX4_enter_86 rfl (lv_at hl 2 rfl) ?_
      refine lv_iadd hx hb dX4_enter_87 ?_
      refine pu (D := D) (ci := 2) (v := .int (((16 : Int32) + a0))) (ty := .int) (W' := (wR cI cJ cP ad (x.1, ((1 : Int32), (1 : Int32), x.2.1.2.2.1, a0, x.2.2.2.2.1.1, x.2.2.2.2.1.2.1, x.2.1.2.2.2.2.2.2), x.2.2.1, x.2.2.2.1, ((0 : Int32), ((16 : Int32) + a0), x.2.2.2.2.1.2.2), x.2.2.2.2.2.1, u3, x.2.2.2.2.2.2.2))) hx hb hG inX2 tyX2 tyokX2 nmX2 hown hK hP hD hS 19 rfl rfl 1 (by decide) (hG _ kw88) (fun _ h9 => h9) rfl (by decide +kernel) rfl rfl (Nat.le_of_ble_eq_true rfl) dX4_enter_88 rfl (fun H locs hP hD hS => ?_)
      refine lv_aload_n hx hb dX4_enter_91 rfl (lv_at hl 1 rfl) ?_
      refine va_get (D := D) (ci := 4) (v := .ref (ad 19)) hx hb hG inX4 hown hK hP 0 rfl rfl 5 (by decide) (hG _ kw87) (fun _ h9 => h9) rfl dX4_enter_92 ?_
      refine lv_iconst (v := 0) hx hb dX4_enter_95 (by decide) ?_
      refine pu (D := D) (ci := 2) (v := .int ((0 : Int32))) (ty := .int) (W' := (wR cI cJ cP ad (x.1, ((1 : Int32), (1 : Int32), x.2.1.2.2.1, a0, x.2.2.2.2.1.1, x.2.2.2.2.1.2.1, x.2.1.2.2.2.2.2.2), x.2.2.1, x.2.2.2.1, ((0 : Int32), ((16 : Int32) + a0), (0 : Int32)), x.2.2.2.2.2.1, u3, x.2.2.2.2.2.2.2))) hx hb hG inX2 tyX2 tyokX2 nmX2 hown hK hP hD hS 19 rfl rfl 2 (by decide) (hG _ kw119) (fun _ h9 => h9) rfl (by decide +kernel) rfl rfl (Nat.le_of_ble_eq_true rfl) dX4_enter_96 rfl (fun H locs hP hD hS => ?_)
      exact retv (u := (x.1, ((1 : Int32), (1 : Int32), x.2.1.2.2.1, a0, x.2.2.2.2.1.1, x.2.2.2.2.1.2.1, x.2.1.2.2.2.2.2.2), x.2.2.1, x.2.2.2.1, ((0 : Int32), ((16 : Int32) + a0), (0 : Int32)), x.2.2.2.2.2.1, u3, x.2.2.2.2.2.2.2)) hx hb hr hlocks hK hP hD hS dX4_enter_99 (by unfold fnX4_enter; (try dsimp only); rw [if_pos h1]; rw [if_pos h2]; rw [← q3]; (try dsimp only); (try exact rfl))
    · refine lv_aload_n hx hb dX4_enter_45 rfl (lv_at hl 1 rfl) ?_
      refine lv_iconst (v := 1) hx hb dX4_enter_46 (by decide) ?_
      refine pu (D := D) (ci := 4) (v := .int ((1 : Int32))) (ty := .boolean) (W' := (wR cI cJ cP ad (x.1, (x.2.1.1, x.2.1.2.1, (1 : Int32), a0, x.2.2.2.2.1.1, x.2.2.2.2.1.2.1, x.2.1.2.2.2.2.2.2), x.2.2.1, x.2.2.2.1, x.2.2.2.2.1, x.2.2.2.2.2.1, x.2.2.2.2.2.2.1, x.2.2.2.2.2.2.2))) hx hb hG inX4 tyX4 tyokX4 nmX4 hown hK hP hD hS 0 rfl rfl 10 (by decide) (hG _ kw103) (fun _ h9 => h9) rfl (by decide +kernel) rfl rfl (Nat.le_of_ble_eq_true rfl) dX4_enter_47 rfl (fun H locs hP hD hS => ?_)
      exact retv (u := (x.1, (x.2.1.1, x.2.1.2.1, (1 : Int32), a0, x.2.2.2.2.1.1, x.2.2.2.2.1.2.1, x.2.1.2.2.2.2.2.2), x.2.2.1, x.2.2.2.1, x.2.2.2.2.1, x.2.2.2.2.2.1, x.2.2.2.2.2.2.1, x.2.2.2.2.2.2.2)) hx hb hr hlocks hK hP hD hS dX4_enter_50 (by unfold fnX4_enter; (try dsimp only); rw [if_pos h1]; rw [if_neg h2]; (try exact rfl))
  · refine lv_aload_n hx hb dX4_enter_5 rfl (lv_at hl 0 rfl) ?_
    refine va_get (D := D) (ci := 4) (v := .ref (ad 12)) hx hb hG inX4 hown hK hP 0 rfl rfl 6 (by decide) (hG _ kw124) (fun _ h9 => h9) rfl dX4_enter_6 ?_
    refine lv_goto (tgt := 16) hx hb dX4_enter_9 (by decide) ?_
    refine lv_astore_n (lv' := [(2, .ref (ad 12)), (0, .ref (ad 0)), (1, .int (a0))]) hx hb dX4_enter_16 rfl hl (by decide) rfl (fun ls hl => ?_)
    refine lv_aload_n hx hb dX4_enter_17 rfl (lv_at hl 1 rfl) ?_
    refine lv_iload_n hx hb dX4_enter_18 rfl (lv_at hl 2 rfl) ?_
    refine pu (D := D) (ci := 4) (v := .int (a0)) (ty := .int) (W' := (wR cI cJ cP ad (x.1, (x.2.1.1, x.2.1.2.1, x.2.1.2.2.1, a0, x.2.1.2.2.2.2.1, x.2.1.2.2.2.2.2.1, x.2.1.2.2.2.2.2.2), x.2.2.1, x.2.2.2.1, x.2.2.2.2.1, x.2.2.2.2.2.1, x.2.2.2.2.2.2.1, x.2.2.2.2.2.2.2))) hx hb hG inX4 tyX4 tyokX4 nmX4 hown hK hP hD hS 0 rfl rfl 11 (by decide) (hG _ kw160) (fun _ h9 => h9) rfl (by decide +kernel) rfl rfl (Nat.le_of_ble_eq_true rfl) dX4_enter_19 rfl (fun H locs hP hD hS => ?_)
    refine lv_aload_n hx hb dX4_enter_22 rfl (lv_at hl 1 rfl) ?_
    refine lv_aload_n hx hb dX4_enter_23 rfl (lv_at hl 0 rfl) ?_
    refine va_get (D := D) (ci := 2) (v := .int (x.2.2.2.2.2.1.1)) hx hb hG inX2 hown hK hP 12 rfl rfl 0 (by decide) (hG _ kw141) (fun _ h9 => h9) rfl dX4_enter_24 ?_
    refine pu (D := D) (ci := 4) (v := .int (x.2.2.2.2.2.1.1)) (ty := .int) (W' := (wR cI cJ cP ad (x.1, (x.2.1.1, x.2.1.2.1, x.2.1.2.2.1, a0, x.2.2.2.2.2.1.1, x.2.1.2.2.2.2.2.1, x.2.1.2.2.2.2.2.2), x.2.2.1, x.2.2.2.1, x.2.2.2.2.1, x.2.2.2.2.2.1, x.2.2.2.2.2.2.1, x.2.2.2.2.2.2.2))) hx hb hG inX4 tyX4 tyokX4 nmX4 hown hK hP hD hS 0 rfl rfl 12 (by decide) (hG _ kw161) (fun _ h9 => h9) rfl (by decide +kernel) rfl rfl (Nat.le_of_ble_eq_true rfl) dX4_enter_27 rfl (fun H locs hP hD hS => ?_)
    refine lv_aload_n hx hb dX4_enter_30 rfl (lv_at hl 1 rfl) ?_
    refine lv_aload_n hx hb dX4_enter_31 rfl (lv_at hl 0 rfl) ?_
    refine va_get (D := D) (ci := 2) (v := .int (x.2.2.2.2.2.1.2.1)) hx hb hG inX2 hown hK hP 12 rfl rfl 1 (by decide) (hG _ kw88) (fun _ h9 => h9) rfl dX4_enter_32 ?_
    refine pu (D := D) (ci := 4) (v := .int (x.2.2.2.2.2.1.2.1)) (ty := .int) (W' := (wR cI cJ cP ad (x.1, (x.2.1.1, x.2.1.2.1, x.2.1.2.2.1, a0, x.2.2.2.2.2.1.1, x.2.2.2.2.2.1.2.1, x.2.1.2.2.2.2.2.2), x.2.2.1, x.2.2.2.1, x.2.2.2.2.1, x.2.2.2.2.2.1, x.2.2.2.2.2.2.1, x.2.2.2.2.2.2.2))) hx hb hG inX4 tyX4 tyokX4 nmX4 hown hK hP hD hS 0 rfl rfl 13 (by decide) (hG _ kw162) (fun _ h9 => h9) rfl (by decide +kernel) rfl rfl (Nat.le_of_ble_eq_true rfl) dX4_enter_35 rfl (fun H locs hP hD hS => ?_)
    refine lv_aload_n hx hb dX4_enter_38 rfl (lv_at hl 1 rfl) ?_
    refine va_get (D := D) (ci := 4) (v := .int (x.2.1.2.1)) hx hb hG inX4 hown hK hP 0 rfl rfl 9 (by decide) (hG _ kw96) (fun _ h9 => h9) rfl dX4_enter_39 ?_
    refine lv_if_eq (tgt := 51) hx hb dX4_enter_42 (by decide) (fun h4 => ?_) (fun h4 => ?_)
    · refine lv_aload_n hx hb dX4_enter_51 rfl (lv_at hl 1 rfl) ?_
      refine va_get (D := D) (ci := 4) (v := .ref (ad 20)) hx hb hG inX4 hown hK hP 0 rfl rfl 7 (by decide) (hG _ kw97) (fun _ h9 => h9) rfl dX4_enter_52 ?_
      refine lv_aload_n hx hb dX4_enter_55 rfl (lv_at hl 1 rfl) ?_
      refine va_get (D := D) (ci := 4) (v := .ref (ad 19)) hx hb hG inX4 hown hK hP 0 rfl rfl 5 (by decide) (hG _ kw87) (fun _ h9 => h9) rfl dX4_enter_56 ?_
      refine kVv (As := [.ref (ad 19)]) (rest := []) (W' := (fun u5 => (wR cI cJ cP ad (x.1, (x.2.1.1, x.2.1.2.1, x.2.1.2.2.1, a0, x.2.2.2.2.2.1.1, x.2.2.2.2.2.1.2.1, x.2.1.2.2.2.2.2.2), x.2.2.1, x.2.2.2.1, x.2.2.2.2.1, x.2.2.2.2.2.1, u5, x.2.2.2.2.2.2.2)))) hx hb hml hown hG hl (okX2_become l D cI cJ cP (ad 20) (ad 19) H.size x.2.2.2.2.2.2.1 x.2.2.2.2.1 hI.2.2.2.2.2.2.1 hI.2.2.2.2.1) (cV 1 hG kw98 kw100 kw101 kw102 kw99 hdX2_become ⟨by decide, by decide⟩) 20 2 rfl rfl hK hP hD hS hA hN [20, 19] rfl rfl rfl (fun _ => rfl) (fun _ => rfl) rfl rfl (Nat.le_of_ble_eq_true rfl) dX4_enter_59 ⟨Nat.zero_le _, Nat.zero_le _⟩ (fun u5 q5 H locs hP hD hS => ?_)
      have j5 : ivX2_becomeP u5 := by rw [q5]; exact ivX2_become x.2.2.2.2.2.2.1 x.2.2.2.2.1 hI.2.2.2.2.2.2.1 hI.2.2.2.2.1
      refine lv_aload_n hx hb dX4_enter_62 rfl (lv_at hl 1 rfl) ?_
      refine lv_iconst (v := 1) hx hb dX4_enter_63 (by decide) ?_
      refine pu (D := D) (ci := 4) (v := .int ((1 : Int32))) (ty := .boolean) (W' := (wR cI cJ cP ad (x.1, ((1 : Int32), x.2.1.2.1, x.2.1.2.2.1, a0, x.2.2.2.2.2.1.1, x.2.2.2.2.2.1.2.1, x.2.1.2.2.2.2.2.2), x.2.2.1, x.2.2.2.1, x.2.2.2.2.1, x.2.2.2.2.2.1, u5, x.2.2.2.2.2.2.2))) hx hb hG inX4 tyX4 tyokX4 nmX4 hown hK hP hD hS 0 rfl rfl 8 (by decide) (hG _ kw163) (fun _ h9 => h9) rfl (by decide +kernel) rfl rfl (Nat.le_of_ble_eq_true rfl) dX4_enter_64 rfl (fun H locs hP hD hS => ?_)
      refine lv_aload_n hx hb dX4_enter_67 rfl (lv_at hl 1 rfl) ?_
      refine lv_iconst (v := 1) hx hb dX4_enter_68 (by decide) ?_
      refine pu (D := D) (ci := 4) (v := .int ((1 : Int32))) (ty := .boolean) (W' := (wR cI cJ cP ad (x.1, ((1 : Int32), (1 : Int32), x.2.1.2.2.1, a0, x.2.2.2.2.2.1.1, x.2.2.2.2.2.1.2.1, x.2.1.2.2.2.2.2.2), x.2.2.1, x.2.2.2.1, x.2.2.2.2.1, x.2.2.2.2.2.1, u5, x.2.2.2.2.2.2.2))) hx hb hG inX4 tyX4 tyokX4 nmX4 hown hK hP hD hS 0 rfl rfl 9 (by decide) (hG _ kw96) (fun _ h9 => h9) rfl (by decide +kernel) rfl rfl (Nat.le_of_ble_eq_true rfl) dX4_enter_69 rfl (fun H locs hP hD hS => ?_)
      refine lv_aload_n hx hb dX4_enter_72 rfl (lv_at hl 1 rfl) ?_
      refine va_get (D := D) (ci := 4) (v := .ref (ad 19)) hx hb hG inX4 hown hK hP 0 rfl rfl 5 (by decide) (hG _ kw87) (fun _ h9 => h9) rfl dX4_enter_73 ?_
      refine lv_iconst (v := 0) hx hb dX4_enter_76 (by decide) ?_
      refine pu (D := D) (ci := 2) (v := .int ((0 : Int32))) (ty := .int) (W' := (wR cI cJ cP ad (x.1, ((1 : Int32), (1 : Int32), x.2.1.2.2.1, a0, x.2.2.2.2.2.1.1, x.2.2.2.2.2.1.2.1, x.2.1.2.2.2.2.2.2), x.2.2.1, x.2.2.2.1, ((0 : Int32), x.2.2.2.2.1.2.1, x.2.2.2.2.1.2.2), x.2.2.2.2.2.1, u5, x.2.2.2.2.2.2.2))) hx hb hG inX2 tyX2 tyokX2 nmX2 hown hK hP hD hS 19 rfl rfl 0 (by decide) (hG _ kw141) (fun _ h9 => h9) rfl (by decide +kernel) rfl rfl (Nat.le_of_ble_eq_true rfl) dX4_enter_77 rfl (fun H locs hP hD hS => ?_)
      refine lv_aload_n hx hb dX4_enter_80 rfl (lv_at hl 1 rfl) ?_
      refine va_get (D := D) (ci := 4) (v := .ref (ad 19)) hx hb hG inX4 hown hK hP 0 rfl rfl 5 (by decide) (hG _ kw87) (fun _ h9 => h9) rfl dX4_enter_81 ?_
      refine lv_bipush (v := 16) hx hb dX4_enter_84 (by decide) ?_
      refine lv_iload_n hx hb dX4_enter_86 rfl (lv_at hl 2 rfl) ?_
      refine lv_iadd hx hb dX4_enter_87 ?_
      refine pu (D := D) (ci := 2) (v := .int (((16 : Int32) + a0))) (ty := .int) (W' := (wR cI cJ cP ad (x.1, ((1 : Int32), (1 : Int32), x.2.1.2.2.1, a0, x.2.2.2.2.2.1.1, x.2.2.2.2.2.1.2.1, x.2.1.2.2.2.2.2.2), x.2.2.1, x.2.2.2.1, ((0 : Int32), ((16 : Int32) + a0), x.2.2.2.2.1.2.2), x.2.2.2.2.2.1, u5, x.2.2.2.2.2.2.2))) hx hb hG inX2 tyX2 tyokX2 nmX2 hown hK hP hD hS 19 rfl rfl 1 (by decide) (hG _ kw88) (fun _ h9 => h9) rfl (by decide +kernel) rfl rfl (Nat.le_of_ble_eq_true rfl) dX4_enter_88 rfl (fun H locs hP hD hS => ?_)
      refine lv_aload_n hx hb dX4_enter_91 rfl (lv_at hl 1 rfl) ?_
      refine va_get (D := D) (ci := 4) (v := .ref (ad 19)) hx hb hG inX4 hown hK hP 0 rfl rfl 5 (by decide) (hG _ kw87) (fun _ h9 => h9) rfl dX4_enter_92 ?_
      refine lv_iconst (v := 0) hx hb dX4_enter_95 (by decide) ?_
      refine pu (D := D) (ci := 2) (v := .int ((0 : Int32))) (ty := .int) (W' := (wR cI cJ cP ad (x.1, ((1 : Int32), (1 : Int32), x.2.1.2.2.1, a0, x.2.2.2.2.2.1.1, x.2.2.2.2.2.1.2.1, x.2.1.2.2.2.2.2.2), x.2.2.1, x.2.2.2.1, ((0 : Int32), ((16 : Int32) + a0), (0 : Int32)), x.2.2.2.2.2.1, u5, x.2.2.2.2.2.2.2))) hx hb hG inX2 tyX2 tyokX2 nmX2 hown hK hP hD hS 19 rfl rfl 2 (by decide) (hG _ kw119) (fun _ h9 => h9) rfl (by decide +kernel) rfl rfl (Nat.le_of_ble_eq_true rfl) dX4_enter_96 rfl (fun H locs hP hD hS => ?_)
      exact retv (u := (x.1, ((1 : Int32), (1 : Int32), x.2.1.2.2.1, a0, x.2.2.2.2.2.1.1, x.2.2.2.2.2.1.2.1, x.2.1.2.2.2.2.2.2), x.2.2.1, x.2.2.2.1, ((0 : Int32), ((16 : Int32) + a0), (0 : Int32)), x.2.2.2.2.2.1, u5, x.2.2.2.2.2.2.2)) hx hb hr hlocks hK hP hD hS dX4_enter_99 (by unfold fnX4_enter; (try dsimp only); rw [if_neg h1]; rw [if_pos h4]; rw [← q5]; (try dsimp only); (try exact rfl))
    · refine lv_aload_n hx hb dX4_enter_45 rfl (lv_at hl 1 rfl) ?_
      refine lv_iconst (v := 1) hx hb dX4_enter_46 (by decide) ?_
      refine pu (D := D) (ci := 4) (v := .int ((1 : Int32))) (ty := .boolean) (W' := (wR cI cJ cP ad (x.1, (x.2.1.1, x.2.1.2.1, (1 : Int32), a0, x.2.2.2.2.2.1.1, x.2.2.2.2.2.1.2.1, x.2.1.2.2.2.2.2.2), x.2.2.1, x.2.2.2.1, x.2.2.2.2.1, x.2.2.2.2.2.1, x.2.2.2.2.2.2.1, x.2.2.2.2.2.2.2))) hx hb hG inX4 tyX4 tyokX4 nmX4 hown hK hP hD hS 0 rfl rfl 10 (by decide) (hG _ kw103) (fun _ h9 => h9) rfl (by decide +kernel) rfl rfl (Nat.le_of_ble_eq_true rfl) dX4_enter_47 rfl (fun H locs hP hD hS => ?_)
      exact retv (u := (x.1, (x.2.1.1, x.2.1.2.1, (1 : Int32), a0, x.2.2.2.2.2.1.1, x.2.2.2.2.2.1.2.1, x.2.1.2.2.2.2.2.2), x.2.2.1, x.2.2.2.1, x.2.2.2.2.1, x.2.2.2.2.2.1, x.2.2.2.2.2.2.1, x.2.2.2.2.2.2.2)) hx hb hr hlocks hK hP hD hS dX4_enter_50 (by unfold fnX4_enter; (try dsimp only); rw [if_neg h1]; rw [if_neg h4]; (try exact rfl))
