def fnX0_clear (x : TC)  : TC :=
  (x.1, x.2.1, x.2.2.1, (0 : Int32))
abbrev ivX0_clearP (z : TC) : Prop := iC z
set_option maxRecDepth 100000 in
set_option maxHeartbeats 4000000 in
theorem ivX0_clear (x : TC)  (hI : iC x) : ivX0_clearP (fnX0_clear x) := by
  unfold fnX0_clear
  try dsimp only
  exact ⟨hI.1, (show i5 (0 : Int32) from by decide)⟩
set_option maxRecDepth 100000 in
set_option maxHeartbeats 4000000 in
theorem okX0_clear (l : Launch) (D : va_G) (cI cJ cP : ClassId) (b0 b1 b2 b3 : Nat) (sz : Nat) (x : TC)  (hI : iC x) : Met l yX0_clear (Cond.code yX0_clear cX0_clear 1 none :: gG) { frames := 0, cells := 0, slots := 0, locals := 0 } (va_Pc [.ref (b0)] (PRE D (tz cI cJ cP) sz (wC cI cJ b0 b1 b2 b3 x))) (va_Qv (fun (u : TC) => u = fnX0_clear x) (AT D (tz cI cJ cP) (va_A (wC cI cJ b0 b1 b2 b3 x) sz) (fun (u : TC) => (wC cI cJ b0 b1 b2 b3 u))) (va_A (wC cI cJ b0 b1 b2 b3 x) sz)) 0 0 (va_A (wC cI cJ b0 b1 b2 b3 x) sz) := by
  refine mo (QA := fun A => va_Qv (fun (u : TC) => u = fnX0_clear x) (AT D (tz cI cJ cP) A (fun (u : TC) => (wC cI cJ b0 b1 b2 b3 u))) A) (by decide) (Nat.le_of_ble_eq_true rfl) ?_
  intro p e s m below meth c A ls H hx hb hr hml hown hG hlocks hnm hA hS hP hK hD hl hN
  have hown : s.vm.findClass RX0 = some m.cls := hown
  have hl : lv_has ls 1 [(0, .ref (b0))] := hl
  refine lv_aload_n hx hb dX0_clear_0 rfl (lv_at hl 0 rfl) ?_
  refine lv_iconst (v := 0) hx hb dX0_clear_1 (by decide) ?_
  refine pu (D := D) (ci := 0) (v := .int ((0 : Int32))) (ty := .int) (W' := (wC cI cJ b0 b1 b2 b3 (x.1, x.2.1, x.2.2.1, (0 : Int32)))) hx hb hG inX0 tyX0 tyokX0 nmX0 hown hK hP hD hS 0 rfl rfl 3 (by decide) (hG _ kw24) (fun _ h9 => h9) rfl (by decide +kernel) rfl rfl (Nat.le_of_ble_eq_true rfl) dX0_clear_2 rfl (fun H locs hP hD hS => ?_)
  exact retv (u := (x.1, x.2.1, x.2.2.1, (0 : Int32))) hx hb hr hlocks hK hP hD hS dX0_clear_5 (by unfold fnX0_clear; (try exact rfl))
def fnX0_nameAt (x : TC) (a0 : Int32) : Int32 :=
  if a0 < (0 : Int32) then
   (-1 : Int32)
  else
   if x.2.2.2 ≤ a0 then
    (-1 : Int32)
   else
    (x.1 (a0).toNatClampNeg)
set_option maxRecDepth 100000 in
set_option maxHeartbeats 4000000 in
theorem okX0_nameAt (l : Launch) (D : va_G) (cI cJ cP : ClassId) (b0 b1 b2 b3 : Nat) (sz : Nat) (x : TC) (a0 : Int32) (hI : iC x) : Met l yX0_nameAt (Cond.code yX0_nameAt cX0_nameAt 2 (some .int) :: gG) { frames := 0, cells := 0, slots := 0, locals := 0 } (va_Pc [.ref (b0), .int a0] (PRE D (tz cI cJ cP) sz (wC cI cJ b0 b1 b2 b3 x))) (va_Qi (fun (r : Int32) (_ : Unit) => r = fnX0_nameAt x a0) (AT D (tz cI cJ cP) (va_A (wC cI cJ b0 b1 b2 b3 x) sz) (fun (_ : Unit) => (wC cI cJ b0 b1 b2 b3 x))) (va_A (wC cI cJ b0 b1 b2 b3 x) sz)) 0 0 (va_A (wC cI cJ b0 b1 b2 b3 x) sz) := by
  refine mo (QA := fun A => va_Qi (fun (r : Int32) (_ : Unit) => r = fnX0_nameAt x a0) (AT D (tz cI cJ cP) A (fun (_ : Unit) => (wC cI cJ b0 b1 b2 b3 x))) A) (by decide) (Nat.le_of_ble_eq_true rfl) ?_
  intro p e s m below meth c A ls H hx hb hr hml hown hG hlocks hnm hA hS hP hK hD hl hN
  have hown : s.vm.findClass RX0 = some m.cls := hown
  have hl : lv_has ls 2 [(0, .ref (b0)), (1, .int a0)] := hl
  refine lv_iload_n hx hb dX0_nameAt_0 rfl (lv_at hl 1 rfl) ?_
  refine lv_if_lt (tgt := 21) hx hb dX0_nameAt_1 (by decide) (fun h1 => ?_) (fun h1 => ?_)
  · refine lv_iconst (v := (-1)) hx hb dX0_nameAt_21 (by decide) ?_
    exact reti (u := ()) hx hb hr hlocks hK hP hD hS dX0_nameAt_22 (by unfold fnX0_nameAt; (try dsimp only); rw [if_pos h1]; (try exact rfl))
  · refine lv_iload_n hx hb dX0_nameAt_4 rfl (lv_at hl 1 rfl) ?_
    refine lv_aload_n hx hb dX0_nameAt_5 rfl (lv_at hl 0 rfl) ?_
    refine va_get (D := D) (ci := 0) (v := .int (x.2.2.2)) hx hb hG inX0 hown hK hP 0 rfl rfl 3 (by decide) (hG _ kw24) (fun _ h9 => h9) rfl dX0_nameAt_6 ?_
    refine lv_icmp_ge (tgt := 21) hx hb dX0_nameAt_9 (by decide) (fun h2 => ?_) (fun h2 => ?_)
    · refine lv_iconst (v := (-1)) hx hb dX0_nameAt_21 (by decide) ?_
      exact reti (u := ()) hx hb hr hlocks hK hP hD hS dX0_nameAt_22 (by unfold fnX0_nameAt; (try dsimp only); rw [if_neg h1]; rw [if_pos h2]; (try exact rfl))
    · refine lv_aload_n hx hb dX0_nameAt_12 rfl (lv_at hl 0 rfl) ?_
      refine va_get (D := D) (ci := 0) (v := .ref (b1)) hx hb hG inX0 hown hK hP 0 rfl rfl 0 (by decide) (hG _ kw25) (fun _ h9 => h9) rfl dX0_nameAt_13 ?_
      refine lv_iload_n hx hb dX0_nameAt_16 rfl (lv_at hl 1 rfl) ?_
      refine gi (D := D) (j := (a0).toNatClampNeg) (f := x.1) hx hb hK hP 1 0 rfl rfl (nameIn hI.2 h1 h2) rfl dX0_nameAt_17 ?_
      refine lv_goto (tgt := 22) hx hb dX0_nameAt_18 (by decide) ?_
      exact reti (u := ()) hx hb hr hlocks hK hP hD hS dX0_nameAt_22 (by unfold fnX0_nameAt; (try dsimp only); rw [if_neg h1]; rw [if_neg h2]; (try exact rfl))
def fnX0_placeOf (x : TC) (a0 : Int32) : Int32 :=
  if x.2.2.2 ≤ (0 : Int32) then
   (-1 : Int32)
  else
   if (x.1 0) = a0 then
    (0 : Int32)
   else
    if x.2.2.2 ≤ (1 : Int32) then
     (-1 : Int32)
    else
     if (x.1 1) = a0 then
      (1 : Int32)
     else
      if x.2.2.2 ≤ (2 : Int32) then
       (-1 : Int32)
      else
       if (x.1 2) = a0 then
        (2 : Int32)
       else
        if x.2.2.2 ≤ (3 : Int32) then
         (-1 : Int32)
        else
         if (x.1 3) = a0 then
          (3 : Int32)
         else
          (-1 : Int32)
abbrev ivX0_placeOfP (z : Int32) : Prop := ipl z
set_option maxRecDepth 100000 in
set_option maxHeartbeats 4000000 in
theorem ivX0_placeOf (x : TC) (a0 : Int32) (hI : iC x) : ivX0_placeOfP (fnX0_placeOf x a0) := by
  unfold fnX0_placeOf
  try dsimp only
  refine iteI (fun h1 => ?_) (fun h1 => ?_)
  · exact (Or.inl rfl)
  · refine iteI (fun h2 => ?_) (fun h2 => ?_)
    · exact (Or.inr (by decide))
    · refine iteI (fun h3 => ?_) (fun h3 => ?_)
      · exact (Or.inl rfl)
      · refine iteI (fun h4 => ?_) (fun h4 => ?_)
        · exact (Or.inr (by decide))
        · refine iteI (fun h5 => ?_) (fun h5 => ?_)
          · exact (Or.inl rfl)
          · refine iteI (fun h6 => ?_) (fun h6 => ?_)
            · exact (Or.inr (by decide))
            · refine iteI (fun h7 => ?_) (fun h7 => ?_)
              · exact (Or.inl rfl)
              · refine iteI (fun h8 => ?_) (fun h8 => ?_)
                · exact (Or.inr (by decide))
                · exact (Or.inl rfl)
set_option maxRecDepth 100000 in
set_option maxHeartbeats 4000000 in
theorem okX0_placeOf (l : Launch) (D : va_G) (cI cJ cP : ClassId) (b0 b1 b2 b3 : Nat) (sz : Nat) (x : TC) (a0 : Int32) (hI : iC x) : Met l yX0_placeOf (Cond.code yX0_placeOf cX0_placeOf 3 (some .int) :: gG) { frames := 0, cells := 0, slots := 0, locals := 0 } (va_Pc [.ref (b0), .int a0] (PRE D (tz cI cJ cP) sz (wC cI cJ b0 b1 b2 b3 x))) (va_Qi (fun (r : Int32) (_ : Unit) => r = fnX0_placeOf x a0) (AT D (tz cI cJ cP) (va_A (wC cI cJ b0 b1 b2 b3 x) sz) (fun (_ : Unit) => (wC cI cJ b0 b1 b2 b3 x))) (va_A (wC cI cJ b0 b1 b2 b3 x) sz)) 0 0 (va_A (wC cI cJ b0 b1 b2 b3 x) sz) := by
  refine mo (QA := fun A => va_Qi (fun (r : Int32) (_ : Unit) => r = fnX0_placeOf x a0) (AT D (tz cI cJ cP) A (fun (_ : Unit) => (wC cI cJ b0 b1 b2 b3 x))) A) (by decide) (Nat.le_of_ble_eq_true rfl) ?_
  intro p e s m below meth c A ls H hx hb hr hml hown hG hlocks hnm hA hS hP hK hD hl hN
  have hown : s.vm.findClass RX0 = some m.cls := hown
  have hl : lv_has ls 3 [(0, .ref (b0)), (1, .int a0)] := hl
  refine lv_iconst (v := 0) hx hb dX0_placeOf_0 (by decide) ?_
  refine lv_istore_n (lv' := [(2, .int ((0 : Int32))), (0, .ref (b0)), (1, .int (a0))]) hx hb dX0_placeOf_1 rfl hl (by decide) rfl (fun ls hl => ?_)
  refine lv_iload_n hx hb dX0_placeOf_2 rfl (lv_at hl 0 rfl) ?_
  refine lv_aload_n hx hb dX0_placeOf_3 rfl (lv_at hl 1 rfl) ?_
  refine va_get (D := D) (ci := 0) (v := .int (x.2.2.2)) hx hb hG inX0 hown hK hP 0 rfl rfl 3 (by decide) (hG _ kw24) (fun _ h9 => h9) rfl dX0_placeOf_4 ?_
  refine lv_icmp_ge (tgt := 28) hx hb dX0_placeOf_7 (by decide) (fun h1 => ?_) (fun h1 => ?_)
  · refine lv_iconst (v := (-1)) hx hb dX0_placeOf_28 (by decide) ?_
    exact reti (u := ()) hx hb hr hlocks hK hP hD hS dX0_placeOf_29 (by unfold fnX0_placeOf; (try dsimp only); rw [if_pos h1]; (try exact rfl))
  · refine lv_aload_n hx hb dX0_placeOf_10 rfl (lv_at hl 1 rfl) ?_
    refine va_get (D := D) (ci := 0) (v := .ref (b1)) hx hb hG inX0 hown hK hP 0 rfl rfl 0 (by decide) (hG _ kw25) (fun _ h9 => h9) rfl dX0_placeOf_11 ?_
    refine lv_iload_n hx hb dX0_placeOf_14 rfl (lv_at hl 0 rfl) ?_
    refine gi (D := D) (j := 0) (f := x.1) hx hb hK hP 1 0 rfl rfl (inL (by decide)) (by decide) dX0_placeOf_15 ?_
    refine lv_iload_n hx hb dX0_placeOf_16 rfl (lv_at hl 2 rfl) ?_
    refine lv_icmp_ne (tgt := 22) hx hb dX0_placeOf_17 (by decide) (fun h2 => ?_) (fun h2 => ?_)
    · refine lv_iinc (k := 0) (v := (1 : Int32)) (lv' := [(2, .int ((1 : Int32))), (0, .ref (b0)), (1, .int (a0))]) hx hb dX0_placeOf_22 hl rfl (by decide) (by decide) rfl (fun ls hl => ?_)
      refine lv_goto (tgt := 2) hx hb dX0_placeOf_25 (by decide) ?_
      refine lv_iload_n hx hb dX0_placeOf_2 rfl (lv_at hl 0 rfl) ?_
      refine lv_aload_n hx hb dX0_placeOf_3 rfl (lv_at hl 1 rfl) ?_
      refine va_get (D := D) (ci := 0) (v := .int (x.2.2.2)) hx hb hG inX0 hown hK hP 0 rfl rfl 3 (by decide) (hG _ kw24) (fun _ h9 => h9) rfl dX0_placeOf_4 ?_
      refine lv_icmp_ge (tgt := 28) hx hb dX0_placeOf_7 (by decide) (fun h3 => ?_) (fun h3 => ?_)
      · refine lv_iconst (v := (-1)) hx hb dX0_placeOf_28 (by decide) ?_
        exact reti (u := ()) hx hb hr hlocks hK hP hD hS dX0_placeOf_29 (by unfold fnX0_placeOf; (try dsimp only); rw [if_neg h1]; rw [if_neg h2]; rw [if_pos h3]; (try exact rfl))
      · refine lv_aload_n hx hb dX0_placeOf_10 rfl (lv_at hl 1 rfl) ?_
        refine va_get (D := D) (ci := 0) (v := .ref (b1)) hx hb hG inX0 hown hK hP 0 rfl rfl 0 (by decide) (hG _ kw25) (fun _ h9 => h9) rfl dX0_placeOf_11 ?_
        refine lv_iload_n hx hb dX0_placeOf_14 rfl (lv_at hl 0 rfl) ?_
        refine gi (D := D) (j := 1) (f := x.1) hx hb hK hP 1 0 rfl rfl (inL (by decide)) (by decide) dX0_placeOf_15 ?_
        refine lv_iload_n hx hb dX0_placeOf_16 rfl (lv_at hl 2 rfl) ?_
        refine lv_icmp_ne (tgt := 22) hx hb dX0_placeOf_17 (by decide) (fun h4 => ?_) (fun h4 => ?_)
        · refine lv_iinc (k := 0) (v := (2 : Int32)) (lv' := [(2, .int ((2 : Int32))), (0, .ref (b0)), (1, .int (a0))]) hx hb dX0_placeOf_22 hl rfl (by decide) (by decide) rfl (fun ls hl => ?_)
          refine lv_goto (tgt := 2) hx hb dX0_placeOf_25 (by decide) ?_
          refine lv_iload_n hx hb dX0_placeOf_2 rfl (lv_at hl 0 rfl) ?_
          refine lv_aload_n hx hb dX0_placeOf_3 rfl (lv_at hl 1 rfl) ?_
          refine va_get (D := D) (ci := 0) (v := .int (x.2.2.2)) hx hb hG inX0 hown hK hP 0 rfl rfl 3 (by decide) (hG _ kw24) (fun _ h9 => h9) rfl dX0_placeOf_4 ?_
          refine lv_icmp_ge (tgt := 28) hx hb dX0_placeOf_7 (by decide) (fun h5 => ?_) (fun h5 => ?_)
          · refine lv_iconst (v := (-1)) hx hb dX0_placeOf_28 (by decide) ?_
            exact reti (u := ()) hx hb hr hlocks hK hP hD hS dX0_placeOf_29 (by unfold fnX0_placeOf; (try dsimp only); rw [if_neg h1]; rw [if_neg h2]; rw [if_neg h3]; rw [if_neg h4]; rw [if_pos h5]; (try exact rfl))
          · refine lv_aload_n hx hb dX0_placeOf_10 rfl (lv_at hl 1 rfl) ?_
            refine va_get (D := D) (ci := 0) (v := .ref (b1)) hx hb hG inX0 hown hK hP 0 rfl rfl 0 (by decide) (hG _ kw25) (fun _ h9 => h9) rfl dX0_placeOf_11 ?_
            refine lv_iload_n hx hb dX0_placeOf_14 rfl (lv_at hl 0 rfl) ?_
            refine gi (D := D) (j := 2) (f := x.1) hx hb hK hP 1 0 rfl rfl (inL (by decide)) (by decide) dX0_placeOf_15 ?_
            refine lv_iload_n hx hb dX0_placeOf_16 rfl (lv_at hl 2 rfl) ?_
            refine lv_icmp_ne (tgt := 22) hx hb dX0_placeOf_17 (by decide) (fun h6 => ?_) (fun h6 => ?_)
            · refine lv_iinc (k := 0) (v := (3 : Int32)) (lv' := [(2, .int ((3 : Int32))), (0, .ref (b0)), (1, .int (a0))]) hx hb dX0_placeOf_22 hl rfl (by decide) (by decide) rfl (fun ls hl => ?_)
              refine lv_goto (tgt := 2) hx hb dX0_placeOf_25 (by decide) ?_
              refine lv_iload_n hx hb dX0_placeOf_2 rfl (lv_at hl 0 rfl) ?_
              refine lv_aload_n hx hb dX0_placeOf_3 rfl (lv_at hl 1 rfl) ?_
              refine va_get (D := D) (ci := 0) (v := .int (x.2.2.2)) hx hb hG inX0 hown hK hP 0 rfl rfl 3 (by decide) (hG _ kw24) (fun _ h9 => h9) rfl dX0_placeOf_4 ?_
              refine lv_icmp_ge (tgt := 28) hx hb dX0_placeOf_7 (by decide) (fun h7 => ?_) (fun h7 => ?_)
              · refine lv_iconst (v := (-1)) hx hb dX0_placeOf_28 (by decide) ?_
                exact reti (u := ()) hx hb hr hlocks hK hP hD hS dX0_placeOf_29 (by unfold fnX0_placeOf; (try dsimp only); rw [if_neg h1]; rw [if_neg h2]; rw [if_neg h3]; rw [if_neg h4]; rw [if_neg h5]; rw [if_neg h6]; rw [if_pos h7]; (try exact rfl))
              · refine lv_aload_n hx hb dX0_placeOf_10 rfl (lv_at hl 1 rfl) ?_
                refine va_get (D := D) (ci := 0) (v := .ref (b1)) hx hb hG inX0 hown hK hP 0 rfl rfl 0 (by decide) (hG _ kw25) (fun _ h9 => h9) rfl dX0_placeOf_11 ?_
                refine lv_iload_n hx hb dX0_placeOf_14 rfl (lv_at hl 0 rfl) ?_
                refine gi (D := D) (j := 3) (f := x.1) hx hb hK hP 1 0 rfl rfl (inL (by decide)) (by decide) dX0_placeOf_15 ?_
                refine lv_iload_n hx hb dX0_placeOf_16 rfl (lv_at hl 2 rfl) ?_
                refine lv_icmp_ne (tgt := 22) hx hb dX0_placeOf_17 (by decide) (fun h8 => ?_) (fun h8 => ?_)
                · refine lv_iinc (k := 0) (v := (4 : Int32)) (lv' := [(2, .int ((4 : Int32))), (0, .ref (b0)), (1, .int (a0))]) hx hb dX0_placeOf_22 hl rfl (by decide) (by decide) rfl (fun ls hl => ?_)
                  refine lv_goto (tgt := 2) hx hb dX0_placeOf_25 (by decide) ?_
                  refine lv_iload_n hx hb dX0_placeOf_2 rfl (lv_at hl 0 rfl) ?_
                  refine lv_aload_n hx hb dX0_placeOf_3 rfl (lv_at hl 1 rfl) ?_
                  refine va_get (D := D) (ci := 0) (v := .int (x.2.2.2)) hx hb hG inX0 hown hK hP 0 rfl rfl 3 (by decide) (hG _ kw24) (fun _ h9 => h9) rfl dX0_placeOf_4 ?_
                  refine lv_icmp_ge (tgt := 28) hx hb dX0_placeOf_7 (by decide) (fun _ => ?_) (fun h9 => absurd (le4 hI.2) h9)
                  refine lv_iconst (v := (-1)) hx hb dX0_placeOf_28 (by decide) ?_
                  exact reti (u := ()) hx hb hr hlocks hK hP hD hS dX0_placeOf_29 (by unfold fnX0_placeOf; (try dsimp only); rw [if_neg h1]; rw [if_neg h2]; rw [if_neg h3]; rw [if_neg h4]; rw [if_neg h5]; rw [if_neg h6]; rw [if_neg h7]; rw [if_neg h8]; (try exact rfl))
                · refine lv_iload_n hx hb dX0_placeOf_20 rfl (lv_at hl 0 rfl) ?_
                  exact reti (u := ()) hx hb hr hlocks hK hP hD hS dX0_placeOf_21 (by unfold fnX0_placeOf; (try dsimp only); rw [if_neg h1]; rw [if_neg h2]; rw [if_neg h3]; rw [if_neg h4]; rw [if_neg h5]; rw [if_neg h6]; rw [if_neg h7]; rw [if_pos h8]; (try exact rfl))
            · refine lv_iload_n hx hb dX0_placeOf_20 rfl (lv_at hl 0 rfl) ?_
              exact reti (u := ()) hx hb hr hlocks hK hP hD hS dX0_placeOf_21 (by unfold fnX0_placeOf; (try dsimp only); rw [if_neg h1]; rw [if_neg h2]; rw [if_neg h3]; rw [if_neg h4]; rw [if_neg h5]; rw [if_pos h6]; (try exact rfl))
        · refine lv_iload_n hx hb dX0_placeOf_20 rfl (lv_at hl 0 rfl) ?_
          exact reti (u := ()) hx hb hr hlocks hK hP hD hS dX0_placeOf_21 (by unfold fnX0_placeOf; (try dsimp only); rw [if_neg h1]; rw [if_neg h2]; rw [if_neg h3]; rw [if_pos h4]; (try exact rfl))
    · refine lv_iload_n hx hb dX0_placeOf_20 rfl (lv_at hl 0 rfl) ?_
      exact reti (u := ()) hx hb hr hlocks hK hP hD hS dX0_placeOf_21 (by unfold fnX0_placeOf; (try dsimp only); rw [if_neg h1]; rw [if_pos h2]; (try exact rfl))
def fnX0_add (x : TC) (a0 : Int32) (a1 : Int64) (a2 : Int64) : Int32 × TC :=
  if (4 : Int32) ≤ x.2.2.2 then
   ((x.2.2.2 - (1 : Int32)), ((upd x.1 ((x.2.2.2 - (1 : Int32))).toNatClampNeg a0), (vp_updL x.2.1 ((x.2.2.2 - (1 : Int32))).toNatClampNeg a1), (vp_updL x.2.2.1 ((x.2.2.2 - (1 : Int32))).toNatClampNeg a2), x.2.2.2))
  else
   (((x.2.2.2 + (1 : Int32)) - (1 : Int32)), ((upd x.1 (((x.2.2.2 + (1 : Int32)) - (1 : Int32))).toNatClampNeg a0), (vp_updL x.2.1 (((x.2.2.2 + (1 : Int32)) - (1 : Int32))).toNatClampNeg a1), (vp_updL x.2.2.1 (((x.2.2.2 + (1 : Int32)) - (1 : Int32))).toNatClampNeg a2), (x.2.2.2 + (1 : Int32))))
abbrev ivX0_addP (z : Int32 × TC) : Prop := i2 z.1 ∧ iC z.2
set_option maxRecDepth 100000 in
set_option maxHeartbeats 4000000 in
theorem ivX0_add (x : TC) (a0 : Int32) (a1 : Int64) (a2 : Int64) (hI : iC x) (g1 : i36 a1) : ivX0_addP (fnX0_add x a0 a1 a2) := by
  unfold fnX0_add
  try dsimp only
  refine iteI (fun h1 => ?_) (fun h1 => ?_)
  · exact ⟨(addB hI.2 h1), ⟨(upW hI.1 g1), hI.2⟩⟩
  · exact ⟨(addA hI.2 h1), ⟨(upW hI.1 g1), (addC hI.2 h1)⟩⟩
set_option maxRecDepth 100000 in
set_option maxHeartbeats 4000000 in
theorem okX0_add (l : Launch) (D : va_G) (cI cJ cP : ClassId) (b0 b1 b2 b3 : Nat) (sz : Nat) (x : TC) (a0 : Int32) (a1 : Int64) (a2 : Int64) (hI : iC x) (g1 : i36 a1) : Met l yX0_add (Cond.code yX0_add cX0_add 7 (some .int) :: gG) { frames := 0, cells := 0, slots := 0, locals := 0 } (va_Pc [.ref (b0), .int a0, .long a1, .long a2] (PRE D (tz cI cJ cP) sz (wC cI cJ b0 b1 b2 b3 x))) (va_Qi (fun (r : Int32) (u : TC) => (r, u) = fnX0_add x a0 a1 a2) (AT D (tz cI cJ cP) (va_A (wC cI cJ b0 b1 b2 b3 x) sz) (fun (u : TC) => (wC cI cJ b0 b1 b2 b3 u))) (va_A (wC cI cJ b0 b1 b2 b3 x) sz)) 0 0 (va_A (wC cI cJ b0 b1 b2 b3 x) sz) := by
  refine mo (QA := fun A => va_Qi (fun (r : Int32) (u : TC) => (r, u) = fnX0_add x a0 a1 a2) (AT D (tz cI cJ cP) A (fun (u : TC) => (wC cI cJ b0 b1 b2 b3 u))) A) (by decide) (Nat.le_of_ble_eq_true rfl) ?_
  intro p e s m below meth c A ls H hx hb hr hml hown hG hlocks hnm hA hS hP hK hD hl hN
  have hown : s.vm.findClass RX0 = some m.cls := hown
  have hl : lv_has ls 7 [(0, .ref (b0)), (1, .int a0), (2, .long a1), (4, .long a2)] := hl
  refine lv_aload_n hx hb dX0_add_0 rfl (lv_at hl 0 rfl) ?_
  refine va_get (D := D) (ci := 0) (v := .int (x.2.2.2)) hx hb hG inX0 hown hK hP 0 rfl rfl 3 (by decide) (hG _ kw24) (fun _ h9 => h9) rfl dX0_add_1 ?_
  refine lv_iconst (v := 4) hx hb dX0_add_4 (by decide) ?_
  refine lv_icmp_ge (tgt := 18) hx hb dX0_add_5 (by decide) (fun h1 => ?_) (fun h1 => ?_)
  · refine lv_aload_n hx hb dX0_add_18 rfl (lv_at hl 0 rfl) ?_
    refine va_get (D := D) (ci := 0) (v := .int (x.2.2.2)) hx hb hG inX0 hown hK hP 0 rfl rfl 3 (by decide) (hG _ kw24) (fun _ h9 => h9) rfl dX0_add_19 ?_
    refine lv_iconst (v := 1) hx hb dX0_add_22 (by decide) ?_
    refine lv_isub hx hb dX0_add_23 ?_
    refine lv_istore (lv' := [(6, .int ((x.2.2.2 - (1 : Int32)))), (0, .ref (b0)), (1, .int (a0)), (2, .long (a1)), (4, .long (a2))]) hx hb dX0_add_24 hl (by decide) rfl (fun ls hl => ?_)
    refine lv_aload_n hx hb dX0_add_26 rfl (lv_at hl 1 rfl) ?_
    refine va_get (D := D) (ci := 0) (v := .ref (b1)) hx hb hG inX0 hown hK hP 0 rfl rfl 0 (by decide) (hG _ kw25) (fun _ h9 => h9) rfl dX0_add_27 ?_
    refine lv_iload hx hb dX0_add_30 (lv_at hl 0 rfl) ?_
    refine lv_iload_n hx hb dX0_add_32 rfl (lv_at hl 2 rfl) ?_
    refine si (D := D) (j := ((x.2.2.2 - (1 : Int32))).toNatClampNeg) (f := x.1) (x := a0) (W' := (wC cI cJ b0 b1 b2 b3 ((upd x.1 ((x.2.2.2 - (1 : Int32))).toNatClampNeg a0), x.2.1, x.2.2.1, x.2.2.2))) hx hb hK hP hD hS 1 0 rfl rfl (in2 (addB hI.2 h1)) rfl dX0_add_33 rfl (fun H locs hP hD hS => ?_)
    refine lv_aload_n hx hb dX0_add_34 rfl (lv_at hl 1 rfl) ?_
    refine va_get (D := D) (ci := 0) (v := .ref (b2)) hx hb hG inX0 hown hK hP 0 rfl rfl 1 (by decide) (hG _ kw26) (fun _ h9 => h9) rfl dX0_add_35 ?_
    refine lv_iload hx hb dX0_add_38 (lv_at hl 0 rfl) ?_
    refine lv_lload_n hx hb dX0_add_40 rfl (lv_at hl 3 rfl) ?_
    refine sl (D := D) (j := ((x.2.2.2 - (1 : Int32))).toNatClampNeg) (f := x.2.1) (x := a1) (W' := (wC cI cJ b0 b1 b2 b3 ((upd x.1 ((x.2.2.2 - (1 : Int32))).toNatClampNeg a0), (vp_updL x.2.1 ((x.2.2.2 - (1 : Int32))).toNatClampNeg a1), x.2.2.1, x.2.2.2))) hx hb hK hP hD hS 2 1 rfl rfl (in2 (addB hI.2 h1)) rfl dX0_add_41 rfl (fun H locs hP hD hS => ?_)
    refine lv_aload_n hx hb dX0_add_42 rfl (lv_at hl 1 rfl) ?_
    refine va_get (D := D) (ci := 0) (v := .ref (b3)) hx hb hG inX0 hown hK hP 0 rfl rfl 2 (by decide) (hG _ kw27) (fun _ h9 => h9) rfl dX0_add_43 ?_
    refine lv_iload hx hb dX0_add_46 (lv_at hl 0 rfl) ?_
    refine lv_lload hx hb dX0_add_48 (lv_at hl 4 rfl) ?_
    refine sl (D := D) (j := ((x.2.2.2 - (1 : Int32))).toNatClampNeg) (f := x.2.2.1) (x := a2) (W' := (wC cI cJ b0 b1 b2 b3 ((upd x.1 ((x.2.2.2 - (1 : Int32))).toNatClampNeg a0), (vp_updL x.2.1 ((x.2.2.2 - (1 : Int32))).toNatClampNeg a1), (vp_updL x.2.2.1 ((x.2.2.2 - (1 : Int32))).toNatClampNeg a2), x.2.2.2))) hx hb hK hP hD hS 3 1 rfl rfl (in2 (addB hI.2 h1)) rfl dX0_add_50 rfl (fun H locs hP hD hS => ?_)
    refine lv_iload hx hb dX0_add_51 (lv_at hl 0 rfl) ?_
    exact reti (u := ((upd x.1 ((x.2.2.2 - (1 : Int32))).toNatClampNeg a0), (vp_updL x.2.1 ((x.2.2.2 - (1 : Int32))).toNatClampNeg a1), (vp_updL x.2.2.1 ((x.2.2.2 - (1 : Int32))).toNatClampNeg a2), x.2.2.2)) hx hb hr hlocks hK hP hD hS dX0_add_53 (by unfold fnX0_add; (try dsimp only); rw [if_pos h1]; (try exact rfl))
  · refine lv_aload_n hx hb dX0_add_8 rfl (lv_at hl 0 rfl) ?_
    refine lv_dup hx hb dX0_add_9 rfl ?_
    refine va_get (D := D) (ci := 0) (v := .int (x.2.2.2)) hx hb hG inX0 hown hK hP 0 rfl rfl 3 (by decide) (hG _ kw24) (fun _ h9 => h9) rfl dX0_add_10 ?_
    refine lv_iconst (v := 1) hx hb dX0_add_13 (by decide) ?_
    refine lv_iadd hx hb dX0_add_14 ?_
    refine pu (D := D) (ci := 0) (v := .int ((x.2.2.2 + (1 : Int32)))) (ty := .int) (W' := (wC cI cJ b0 b1 b2 b3 (x.1, x.2.1, x.2.2.1, (x.2.2.2 + (1 : Int32))))) hx hb hG inX0 tyX0 tyokX0 nmX0 hown hK hP hD hS 0 rfl rfl 3 (by decide) (hG _ kw24) (fun _ h9 => h9) rfl (by decide +kernel) rfl rfl (Nat.le_of_ble_eq_true rfl) dX0_add_15 rfl (fun H locs hP hD hS => ?_)
    refine lv_aload_n hx hb dX0_add_18 rfl (lv_at hl 0 rfl) ?_
    refine va_get (D := D) (ci := 0) (v := .int ((x.2.2.2 + (1 : Int32)))) hx hb hG inX0 hown hK hP 0 rfl rfl 3 (by decide) (hG _ kw24) (fun _ h9 => h9) rfl dX0_add_19 ?_
    refine lv_iconst (v := 1) hx hb dX0_add_22 (by decide) ?_
    refine lv_isub hx hb dX0_add_23 ?_
    refine lv_istore (lv' := [(6, .int (((x.2.2.2 + (1 : Int32)) - (1 : Int32)))), (0, .ref (b0)), (1, .int (a0)), (2, .long (a1)), (4, .long (a2))]) hx hb dX0_add_24 hl (by decide) rfl (fun ls hl => ?_)
    refine lv_aload_n hx hb dX0_add_26 rfl (lv_at hl 1 rfl) ?_
    refine va_get (D := D) (ci := 0) (v := .ref (b1)) hx hb hG inX0 hown hK hP 0 rfl rfl 0 (by decide) (hG _ kw25) (fun _ h9 => h9) rfl dX0_add_27 ?_
    refine lv_iload hx hb dX0_add_30 (lv_at hl 0 rfl) ?_
    refine lv_iload_n hx hb dX0_add_32 rfl (lv_at hl 2 rfl) ?_
    refine si (D := D) (j := (((x.2.2.2 + (1 : Int32)) - (1 : Int32))).toNatClampNeg) (f := x.1) (x := a0) (W' := (wC cI cJ b0 b1 b2 b3 ((upd x.1 (((x.2.2.2 + (1 : Int32)) - (1 : Int32))).toNatClampNeg a0), x.2.1, x.2.2.1, (x.2.2.2 + (1 : Int32))))) hx hb hK hP hD hS 1 0 rfl rfl (in2 (addA hI.2 h1)) rfl dX0_add_33 rfl (fun H locs hP hD hS => ?_)
    refine lv_aload_n hx hb dX0_add_34 rfl (lv_at hl 1 rfl) ?_
    refine va_get (D := D) (ci := 0) (v := .ref (b2)) hx hb hG inX0 hown hK hP 0 rfl rfl 1 (by decide) (hG _ kw26) (fun _ h9 => h9) rfl dX0_add_35 ?_
    refine lv_iload hx hb dX0_add_38 (lv_at hl 0 rfl) ?_
    refine lv_lload_n hx hb dX0_add_40 rfl (lv_at hl 3 rfl) ?_
    refine sl (D := D) (j := (((x.2.2.2 + (1 : Int32)) - (1 : Int32))).toNatClampNeg) (f := x.2.1) (x := a1) (W' := (wC cI cJ b0 b1 b2 b3 ((upd x.1 (((x.2.2.2 + (1 : Int32)) - (1 : Int32))).toNatClampNeg a0), (vp_updL x.2.1 (((x.2.2.2 + (1 : Int32)) - (1 : Int32))).toNatClampNeg a1), x.2.2.1, (x.2.2.2 + (1 : Int32))))) hx hb hK hP hD hS 2 1 rfl rfl (in2 (addA hI.2 h1)) rfl dX0_add_41 rfl (fun H locs hP hD hS => ?_)
    refine lv_aload_n hx hb dX0_add_42 rfl (lv_at hl 1 rfl) ?_
    refine va_get (D := D) (ci := 0) (v := .ref (b3)) hx hb hG inX0 hown hK hP 0 rfl rfl 2 (by decide) (hG _ kw27) (fun _ h9 => h9) rfl dX0_add_43 ?_
    refine lv_iload hx hb dX0_add_46 (lv_at hl 0 rfl) ?_
    refine lv_lload hx hb dX0_add_48 (lv_at hl 4 rfl) ?_
    refine sl (D := D) (j := (((x.2.2.2 + (1 : Int32)) - (1 : Int32))).toNatClampNeg) (f := x.2.2.1) (x := a2) (W' := (wC cI cJ b0 b1 b2 b3 ((upd x.1 (((x.2.2.2 + (1 : Int32)) - (1 : Int32))).toNatClampNeg a0), (vp_updL x.2.1 (((x.2.2.2 + (1 : Int32)) - (1 : Int32))).toNatClampNeg a1), (vp_updL x.2.2.1 (((x.2.2.2 + (1 : Int32)) - (1 : Int32))).toNatClampNeg a2), (x.2.2.2 + (1 : Int32))))) hx hb hK hP hD hS 3 1 rfl rfl (in2 (addA hI.2 h1)) rfl dX0_add_50 rfl (fun H locs hP hD hS => ?_)
    refine lv_iload hx hb dX0_add_51 (lv_at hl 0 rfl) ?_
    exact reti (u := ((upd x.1 (((x.2.2.2 + (1 : Int32)) - (1 : Int32))).toNatClampNeg a0), (vp_updL x.2.1 (((x.2.2.2 + (1 : Int32)) - (1 : Int32))).toNatClampNeg a1), (vp_updL x.2.2.1 (((x.2.2.2 + (1 : Int32)) - (1 : Int32))).toNatClampNeg a2), (x.2.2.2 + (1 : Int32)))) hx hb hr hlocks hK hP hD hS dX0_add_53 (by unfold fnX0_add; (try dsimp only); rw [if_neg h1]; (try exact rfl))
def fnX0_moveToFront (x : TC) (a0 : Int32) : TC :=
  if a0 = (0 : Int32) then
   ((upd x.1 0 (x.1 0)), (vp_updL x.2.1 0 (x.2.1 0)), (vp_updL x.2.2.1 0 (x.2.2.1 0)), x.2.2.2)
  else
   if a0 = (1 : Int32) then
    ((upd (upd x.1 1 (x.1 0)) 0 (x.1 1)), (vp_updL (vp_updL x.2.1 1 (x.2.1 0)) 0 (x.2.1 1)), (vp_updL (vp_updL x.2.2.1 1 (x.2.2.1 0)) 0 (x.2.2.1 1)), x.2.2.2)
   else
    if a0 = (2 : Int32) then
     ((upd (upd (upd x.1 2 (x.1 1)) 1 ((upd x.1 2 (x.1 1)) 0)) 0 (x.1 2)), (vp_updL (vp_updL (vp_updL x.2.1 2 (x.2.1 1)) 1 ((vp_updL x.2.1 2 (x.2.1 1)) 0)) 0 (x.2.1 2)), (vp_updL (vp_updL (vp_updL x.2.2.1 2 (x.2.2.1 1)) 1 ((vp_updL x.2.2.1 2 (x.2.2.1 1)) 0)) 0 (x.2.2.1 2)), x.2.2.2)
    else
     ((upd (upd (upd (upd x.1 3 (x.1 2)) 2 ((upd x.1 3 (x.1 2)) 1)) 1 ((upd (upd x.1 3 (x.1 2)) 2 ((upd x.1 3 (x.1 2)) 1)) 0)) 0 (x.1 3)), (vp_updL (vp_updL (vp_updL (vp_updL x.2.1 3 (x.2.1 2)) 2 ((vp_updL x.2.1 3 (x.2.1 2)) 1)) 1 ((vp_updL (vp_updL x.2.1 3 (x.2.1 2)) 2 ((vp_updL x.2.1 3 (x.2.1 2)) 1)) 0)) 0 (x.2.1 3)), (vp_updL (vp_updL (vp_updL (vp_updL x.2.2.1 3 (x.2.2.1 2)) 2 ((vp_updL x.2.2.1 3 (x.2.2.1 2)) 1)) 1 ((vp_updL (vp_updL x.2.2.1 3 (x.2.2.1 2)) 2 ((vp_updL x.2.2.1 3 (x.2.2.1 2)) 1)) 0)) 0 (x.2.2.1 3)), x.2.2.2)
abbrev ivX0_moveToFrontP (z : TC) : Prop := iC z
set_option maxRecDepth 100000 in
set_option maxHeartbeats 4000000 in
theorem ivX0_moveToFront (x : TC) (a0 : Int32) (hI : iC x) (g0 : i2 a0) : ivX0_moveToFrontP (fnX0_moveToFront x a0) := by
  unfold fnX0_moveToFront
  try dsimp only
  refine iteI (fun h1 => ?_) (fun h1 => ?_)
  · exact ⟨(upW hI.1 (hI.1 0)), hI.2⟩
  · refine iteI (fun h2 => ?_) (fun h2 => ?_)
    · exact ⟨(upW (upW hI.1 (hI.1 0)) (hI.1 1)), hI.2⟩
    · refine iteI (fun h3 => ?_) (fun h3 => ?_)
      · exact ⟨(upW (upW (upW hI.1 (hI.1 1)) ((upW hI.1 (hI.1 1)) 0)) (hI.1 2)), hI.2⟩
      · exact ⟨(upW (upW (upW (upW hI.1 (hI.1 2)) ((upW hI.1 (hI.1 2)) 1)) ((upW (upW hI.1 (hI.1 2)) ((upW hI.1 (hI.1 2)) 1)) 0)) (hI.1 3)), hI.2⟩
set_option maxRecDepth 100000 in
set_option maxHeartbeats 4000000 in
theorem okX0_moveToFront (l : Launch) (D : va_G) (cI cJ cP : ClassId) (b0 b1 b2 b3 : Nat) (sz : Nat) (x : TC) (a0 : Int32) (hI : iC x) (g0 : i2 a0) : Met l yX0_moveToFront (Cond.code yX0_moveToFront cX0_moveToFront 8 none :: gG) { frames := 0, cells := 0, slots := 0, locals := 0 } (va_Pc [.ref (b0), .int a0] (PRE D (tz cI cJ cP) sz (wC cI cJ b0 b1 b2 b3 x))) (va_Qv (fun (u : TC) => u = fnX0_moveToFront x a0) (AT D (tz cI cJ cP) (va_A (wC cI cJ b0 b1 b2 b3 x) sz) (fun (u : TC) => (wC cI cJ b0 b1 b2 b3 u))) (va_A (wC cI cJ b0 b1 b2 b3 x) sz)) 0 0 (va_A (wC cI cJ b0 b1 b2 b3 x) sz) := by
  refine mo (QA := fun A => va_Qv (fun (u : TC) => u = fnX0_moveToFront x a0) (AT D (tz cI cJ cP) A (fun (u : TC) => (wC cI cJ b0 b1 b2 b3 u))) A) (by decide) (Nat.le_of_ble_eq_true rfl) ?_
  intro p e s m below meth c A ls H hx hb hr hml hown hG hlocks hnm hA hS hP hK hD hl hN
  have hown : s.vm.findClass RX0 = some m.cls := hown
  have hl : lv_has ls 8 [(0, .ref (b0)), (1, .int a0)] := hl
  by_cases h1 : a0 = (0 : Int32)
  · subst h1
    refine lv_aload_n hx hb dX0_moveToFront_0 rfl (lv_at hl 0 rfl) ?_
    refine va_get (D := D) (ci := 0) (v := .ref (b1)) hx hb hG inX0 hown hK hP 0 rfl rfl 0 (by decide) (hG _ kw25) (fun _ h9 => h9) rfl dX0_moveToFront_1 ?_
    refine lv_iload_n hx hb dX0_moveToFront_4 rfl (lv_at hl 1 rfl) ?_
    refine gi (D := D) (j := 0) (f := x.1) hx hb hK hP 1 0 rfl rfl (inL (by decide)) (by decide) dX0_moveToFront_5 ?_
    refine lv_istore_n (lv' := [(2, .int ((x.1 0))), (0, .ref (b0)), (1, .int ((0 : Int32)))]) hx hb dX0_moveToFront_6 rfl hl (by decide) rfl (fun ls hl => ?_)
    refine lv_aload_n hx hb dX0_moveToFront_7 rfl (lv_at hl 1 rfl) ?_
    refine va_get (D := D) (ci := 0) (v := .ref (b2)) hx hb hG inX0 hown hK hP 0 rfl rfl 1 (by decide) (hG _ kw26) (fun _ h9 => h9) rfl dX0_moveToFront_8 ?_
    refine lv_iload_n hx hb dX0_moveToFront_11 rfl (lv_at hl 2 rfl) ?_
    refine gl (D := D) (j := 0) (f := x.2.1) hx hb hK hP 2 1 rfl rfl (inL (by decide)) (by decide) dX0_moveToFront_12 ?_
    refine lv_lstore_n (lv' := [(3, .long ((x.2.1 0))), (2, .int ((x.1 0))), (0, .ref (b0)), (1, .int ((0 : Int32)))]) hx hb dX0_moveToFront_13 rfl hl (by decide) rfl (fun ls hl => ?_)
    refine lv_aload_n hx hb dX0_moveToFront_14 rfl (lv_at hl 2 rfl) ?_
    refine va_get (D := D) (ci := 0) (v := .ref (b3)) hx hb hG inX0 hown hK hP 0 rfl rfl 2 (by decide) (hG _ kw27) (fun _ h9 => h9) rfl dX0_moveToFront_15 ?_
    refine lv_iload_n hx hb dX0_moveToFront_18 rfl (lv_at hl 3 rfl) ?_
    refine gl (D := D) (j := 0) (f := x.2.2.1) hx hb hK hP 3 1 rfl rfl (inL (by decide)) (by decide) dX0_moveToFront_19 ?_
    refine lv_lstore (lv' := [(5, .long ((x.2.2.1 0))), (3, .long ((x.2.1 0))), (2, .int ((x.1 0))), (0, .ref (b0)), (1, .int ((0 : Int32)))]) hx hb dX0_moveToFront_20 hl (by decide) rfl (fun ls hl => ?_)
    refine lv_iload_n hx hb dX0_moveToFront_22 rfl (lv_at hl 4 rfl) ?_
    refine lv_istore (lv' := [(7, .int ((0 : Int32))), (5, .long ((x.2.2.1 0))), (3, .long ((x.2.1 0))), (2, .int ((x.1 0))), (0, .ref (b0)), (1, .int ((0 : Int32)))]) hx hb dX0_moveToFront_23 hl (by decide) rfl (fun ls hl => ?_)
    refine lv_iload hx hb dX0_moveToFront_25 (lv_at hl 0 rfl) ?_
    refine lv_if_le (tgt := 84) hx hb dX0_moveToFront_27 (by decide) (fun _ => ?_) (fun h9 => absurd (by decide) h9)
    refine lv_aload_n hx hb dX0_moveToFront_84 rfl (lv_at hl 4 rfl) ?_
    refine va_get (D := D) (ci := 0) (v := .ref (b1)) hx hb hG inX0 hown hK hP 0 rfl rfl 0 (by decide) (hG _ kw25) (fun _ h9 => h9) rfl dX0_moveToFront_85 ?_
    refine lv_iconst (v := 0) hx hb dX0_moveToFront_88 (by decide) ?_
    refine lv_iload_n hx hb dX0_moveToFront_89 rfl (lv_at hl 3 rfl) ?_
    refine si (D := D) (j := 0) (f := x.1) (x := (x.1 0)) (W' := (wC cI cJ b0 b1 b2 b3 ((upd x.1 0 (x.1 0)), x.2.1, x.2.2.1, x.2.2.2))) hx hb hK hP hD hS 1 0 rfl rfl (inL (by decide)) (by decide) dX0_moveToFront_90 rfl (fun H locs hP hD hS => ?_)
    refine lv_aload_n hx hb dX0_moveToFront_91 rfl (lv_at hl 4 rfl) ?_
    refine va_get (D := D) (ci := 0) (v := .ref (b2)) hx hb hG inX0 hown hK hP 0 rfl rfl 1 (by decide) (hG _ kw26) (fun _ h9 => h9) rfl dX0_moveToFront_92 ?_
    refine lv_iconst (v := 0) hx hb dX0_moveToFront_95 (by decide) ?_
    refine lv_lload_n hx hb dX0_moveToFront_96 rfl (lv_at hl 2 rfl) ?_
    refine sl (D := D) (j := 0) (f := x.2.1) (x := (x.2.1 0)) (W' := (wC cI cJ b0 b1 b2 b3 ((upd x.1 0 (x.1 0)), (vp_updL x.2.1 0 (x.2.1 0)), x.2.2.1, x.2.2.2))) hx hb hK hP hD hS 2 1 rfl rfl (inL (by decide)) (by decide) dX0_moveToFront_97 rfl (fun H locs hP hD hS => ?_)
    refine lv_aload_n hx hb dX0_moveToFront_98 rfl (lv_at hl 4 rfl) ?_
    refine va_get (D := D) (ci := 0) (v := .ref (b3)) hx hb hG inX0 hown hK hP 0 rfl rfl 2 (by decide) (hG _ kw27) (fun _ h9 => h9) rfl dX0_moveToFront_99 ?_
    refine lv_iconst (v := 0) hx hb dX0_moveToFront_102 (by decide) ?_
    refine lv_lload hx hb dX0_moveToFront_103 (lv_at hl 1 rfl) ?_
    refine sl (D := D) (j := 0) (f := x.2.2.1) (x := (x.2.2.1 0)) (W' := (wC cI cJ b0 b1 b2 b3 ((upd x.1 0 (x.1 0)), (vp_updL x.2.1 0 (x.2.1 0)), (vp_updL x.2.2.1 0 (x.2.2.1 0)), x.2.2.2))) hx hb hK hP hD hS 3 1 rfl rfl (inL (by decide)) (by decide) dX0_moveToFront_105 rfl (fun H locs hP hD hS => ?_)
    exact retv (u := ((upd x.1 0 (x.1 0)), (vp_updL x.2.1 0 (x.2.1 0)), (vp_updL x.2.2.1 0 (x.2.2.1 0)), x.2.2.2)) hx hb hr hlocks hK hP hD hS dX0_moveToFront_106 (by unfold fnX0_moveToFront; (try dsimp only); rw [if_pos (rfl : (0 : Int32) = (0 : Int32))]; (try exact rfl))
  by_cases h2 : a0 = (1 : Int32)
  · subst h2
    refine lv_aload_n hx hb dX0_moveToFront_0 rfl (lv_at hl 0 rfl) ?_
    refine va_get (D := D) (ci := 0) (v := .ref (b1)) hx hb hG inX0 hown hK hP 0 rfl rfl 0 (by decide) (hG _ kw25) (fun _ h9 => h9) rfl dX0_moveToFront_1 ?_
    refine lv_iload_n hx hb dX0_moveToFront_4 rfl (lv_at hl 1 rfl) ?_
    refine gi (D := D) (j := 1) (f := x.1) hx hb hK hP 1 0 rfl rfl (inL (by decide)) (by decide) dX0_moveToFront_5 ?_
    refine lv_istore_n (lv' := [(2, .int ((x.1 1))), (0, .ref (b0)), (1, .int ((1 : Int32)))]) hx hb dX0_moveToFront_6 rfl hl (by decide) rfl (fun ls hl => ?_)
    refine lv_aload_n hx hb dX0_moveToFront_7 rfl (lv_at hl 1 rfl) ?_
    refine va_get (D := D) (ci := 0) (v := .ref (b2)) hx hb hG inX0 hown hK hP 0 rfl rfl 1 (by decide) (hG _ kw26) (fun _ h9 => h9) rfl dX0_moveToFront_8 ?_
    refine lv_iload_n hx hb dX0_moveToFront_11 rfl (lv_at hl 2 rfl) ?_
    refine gl (D := D) (j := 1) (f := x.2.1) hx hb hK hP 2 1 rfl rfl (inL (by decide)) (by decide) dX0_moveToFront_12 ?_
    refine lv_lstore_n (lv' := [(3, .long ((x.2.1 1))), (2, .int ((x.1 1))), (0, .ref (b0)), (1, .int ((1 : Int32)))]) hx hb dX0_moveToFront_13 rfl hl (by decide) rfl (fun ls hl => ?_)
    refine lv_aload_n hx hb dX0_moveToFront_14 rfl (lv_at hl 2 rfl) ?_
    refine va_get (D := D) (ci := 0) (v := .ref (b3)) hx hb hG inX0 hown hK hP 0 rfl rfl 2 (by decide) (hG _ kw27) (fun _ h9 => h9) rfl dX0_moveToFront_15 ?_
    refine lv_iload_n hx hb dX0_moveToFront_18 rfl (lv_at hl 3 rfl) ?_
    refine gl (D := D) (j := 1) (f := x.2.2.1) hx hb hK hP 3 1 rfl rfl (inL (by decide)) (by decide) dX0_moveToFront_19 ?_
    refine lv_lstore (lv' := [(5, .long ((x.2.2.1 1))), (3, .long ((x.2.1 1))), (2, .int ((x.1 1))), (0, .ref (b0)), (1, .int ((1 : Int32)))]) hx hb dX0_moveToFront_20 hl (by decide) rfl (fun ls hl => ?_)
    refine lv_iload_n hx hb dX0_moveToFront_22 rfl (lv_at hl 4 rfl) ?_
    refine lv_istore (lv' := [(7, .int ((1 : Int32))), (5, .long ((x.2.2.1 1))), (3, .long ((x.2.1 1))), (2, .int ((x.1 1))), (0, .ref (b0)), (1, .int ((1 : Int32)))]) hx hb dX0_moveToFront_23 hl (by decide) rfl (fun ls hl => ?_)
    refine lv_iload hx hb dX0_moveToFront_25 (lv_at hl 0 rfl) ?_
    refine lv_if_le (tgt := 84) hx hb dX0_moveToFront_27 (by decide) (fun h9 => absurd h9 (by decide)) (fun _ => ?_)
    refine lv_aload_n hx hb dX0_moveToFront_30 rfl (lv_at hl 4 rfl) ?_
    refine va_get (D := D) (ci := 0) (v := .ref (b1)) hx hb hG inX0 hown hK hP 0 rfl rfl 0 (by decide) (hG _ kw25) (fun _ h9 => h9) rfl dX0_moveToFront_31 ?_
    refine lv_iload hx hb dX0_moveToFront_34 (lv_at hl 0 rfl) ?_
    refine lv_aload_n hx hb dX0_moveToFront_36 rfl (lv_at hl 4 rfl) ?_
    refine va_get (D := D) (ci := 0) (v := .ref (b1)) hx hb hG inX0 hown hK hP 0 rfl rfl 0 (by decide) (hG _ kw25) (fun _ h9 => h9) rfl dX0_moveToFront_37 ?_
    refine lv_iload hx hb dX0_moveToFront_40 (lv_at hl 0 rfl) ?_
    refine lv_iconst (v := 1) hx hb dX0_moveToFront_42 (by decide) ?_
    refine lv_isub hx hb dX0_moveToFront_43 ?_
    refine tI (y := 0) (by decide) ?_
    refine gi (D := D) (j := 0) (f := x.1) hx hb hK hP 1 0 rfl rfl (inL (by decide)) (by decide) dX0_moveToFront_44 ?_
    refine si (D := D) (j := 1) (f := x.1) (x := (x.1 0)) (W' := (wC cI cJ b0 b1 b2 b3 ((upd x.1 1 (x.1 0)), x.2.1, x.2.2.1, x.2.2.2))) hx hb hK hP hD hS 1 0 rfl rfl (inL (by decide)) (by decide) dX0_moveToFront_45 rfl (fun H locs hP hD hS => ?_)
    refine lv_aload_n hx hb dX0_moveToFront_46 rfl (lv_at hl 4 rfl) ?_
    refine va_get (D := D) (ci := 0) (v := .ref (b2)) hx hb hG inX0 hown hK hP 0 rfl rfl 1 (by decide) (hG _ kw26) (fun _ h9 => h9) rfl dX0_moveToFront_47 ?_
    refine lv_iload hx hb dX0_moveToFront_50 (lv_at hl 0 rfl) ?_
    refine lv_aload_n hx hb dX0_moveToFront_52 rfl (lv_at hl 4 rfl) ?_
    refine va_get (D := D) (ci := 0) (v := .ref (b2)) hx hb hG inX0 hown hK hP 0 rfl rfl 1 (by decide) (hG _ kw26) (fun _ h9 => h9) rfl dX0_moveToFront_53 ?_
    refine lv_iload hx hb dX0_moveToFront_56 (lv_at hl 0 rfl) ?_
    refine lv_iconst (v := 1) hx hb dX0_moveToFront_58 (by decide) ?_
    refine lv_isub hx hb dX0_moveToFront_59 ?_
    refine tI (y := 0) (by decide) ?_
    refine gl (D := D) (j := 0) (f := x.2.1) hx hb hK hP 2 1 rfl rfl (inL (by decide)) (by decide) dX0_moveToFront_60 ?_
    refine sl (D := D) (j := 1) (f := x.2.1) (x := (x.2.1 0)) (W' := (wC cI cJ b0 b1 b2 b3 ((upd x.1 1 (x.1 0)), (vp_updL x.2.1 1 (x.2.1 0)), x.2.2.1, x.2.2.2))) hx hb hK hP hD hS 2 1 rfl rfl (inL (by decide)) (by decide) dX0_moveToFront_61 rfl (fun H locs hP hD hS => ?_)
    refine lv_aload_n hx hb dX0_moveToFront_62 rfl (lv_at hl 4 rfl) ?_
    refine va_get (D := D) (ci := 0) (v := .ref (b3)) hx hb hG inX0 hown hK hP 0 rfl rfl 2 (by decide) (hG _ kw27) (fun _ h9 => h9) rfl dX0_moveToFront_63 ?_
    refine lv_iload hx hb dX0_moveToFront_66 (lv_at hl 0 rfl) ?_
    refine lv_aload_n hx hb dX0_moveToFront_68 rfl (lv_at hl 4 rfl) ?_
    refine va_get (D := D) (ci := 0) (v := .ref (b3)) hx hb hG inX0 hown hK hP 0 rfl rfl 2 (by decide) (hG _ kw27) (fun _ h9 => h9) rfl dX0_moveToFront_69 ?_
    refine lv_iload hx hb dX0_moveToFront_72 (lv_at hl 0 rfl) ?_
    refine lv_iconst (v := 1) hx hb dX0_moveToFront_74 (by decide) ?_
    refine lv_isub hx hb dX0_moveToFront_75 ?_
    refine tI (y := 0) (by decide) ?_
    refine gl (D := D) (j := 0) (f := x.2.2.1) hx hb hK hP 3 1 rfl rfl (inL (by decide)) (by decide) dX0_moveToFront_76 ?_
    refine sl (D := D) (j := 1) (f := x.2.2.1) (x := (x.2.2.1 0)) (W' := (wC cI cJ b0 b1 b2 b3 ((upd x.1 1 (x.1 0)), (vp_updL x.2.1 1 (x.2.1 0)), (vp_updL x.2.2.1 1 (x.2.2.1 0)), x.2.2.2))) hx hb hK hP hD hS 3 1 rfl rfl (inL (by decide)) (by decide) dX0_moveToFront_77 rfl (fun H locs hP hD hS => ?_)
    refine lv_iinc (k := 0) (v := (0 : Int32)) (lv' := [(7, .int ((0 : Int32))), (5, .long ((x.2.2.1 1))), (3, .long ((x.2.1 1))), (2, .int ((x.1 1))), (0, .ref (b0)), (1, .int ((1 : Int32)))]) hx hb dX0_moveToFront_78 hl rfl (by decide) (by decide) rfl (fun ls hl => ?_)
    refine lv_goto (tgt := 25) hx hb dX0_moveToFront_81 (by decide) ?_
    refine lv_iload hx hb dX0_moveToFront_25 (lv_at hl 0 rfl) ?_
    refine lv_if_le (tgt := 84) hx hb dX0_moveToFront_27 (by decide) (fun _ => ?_) (fun h9 => absurd (by decide) h9)
    refine lv_aload_n hx hb dX0_moveToFront_84 rfl (lv_at hl 4 rfl) ?_
    refine va_get (D := D) (ci := 0) (v := .ref (b1)) hx hb hG inX0 hown hK hP 0 rfl rfl 0 (by decide) (hG _ kw25) (fun _ h9 => h9) rfl dX0_moveToFront_85 ?_
    refine lv_iconst (v := 0) hx hb dX0_moveToFront_88 (by decide) ?_
    refine lv_iload_n hx hb dX0_moveToFront_89 rfl (lv_at hl 3 rfl) ?_
    refine si (D := D) (j := 0) (f := (upd x.1 1 (x.1 0))) (x := (x.1 1)) (W' := (wC cI cJ b0 b1 b2 b3 ((upd (upd x.1 1 (x.1 0)) 0 (x.1 1)), (vp_updL x.2.1 1 (x.2.1 0)), (vp_updL x.2.2.1 1 (x.2.2.1 0)), x.2.2.2))) hx hb hK hP hD hS 1 0 rfl rfl (inL (by decide)) (by decide) dX0_moveToFront_90 rfl (fun H locs hP hD hS => ?_)
    refine lv_aload_n hx hb dX0_moveToFront_91 rfl (lv_at hl 4 rfl) ?_
    refine va_get (D := D) (ci := 0) (v := .ref (b2)) hx hb hG inX0 hown hK hP 0 rfl rfl 1 (by decide) (hG _ kw26) (fun _ h9 => h9) rfl dX0_moveToFront_92 ?_
    refine lv_iconst (v := 0) hx hb dX0_moveToFront_95 (by decide) ?_
    refine lv_lload_n hx hb dX0_moveToFront_96 rfl (lv_at hl 2 rfl) ?_
    refine sl (D := D) (j := 0) (f := (vp_updL x.2.1 1 (x.2.1 0))) (x := (x.2.1 1)) (W' := (wC cI cJ b0 b1 b2 b3 ((upd (upd x.1 1 (x.1 0)) 0 (x.1 1)), (vp_updL (vp_updL x.2.1 1 (x.2.1 0)) 0 (x.2.1 1)), (vp_updL x.2.2.1 1 (x.2.2.1 0)), x.2.2.2))) hx hb hK hP hD hS 2 1 rfl rfl (inL (by decide)) (by decide) dX0_moveToFront_97 rfl (fun H locs hP hD hS => ?_)
    refine lv_aload_n hx hb dX0_moveToFront_98 rfl (lv_at hl 4 rfl) ?_
    refine va_get (D := D) (ci := 0) (v := .ref (b3)) hx hb hG inX0 hown hK hP 0 rfl rfl 2 (by decide) (hG _ kw27) (fun _ h9 => h9) rfl dX0_moveToFront_99 ?_
    refine lv_iconst (v := 0) hx hb dX0_moveToFront_102 (by decide) ?_
    refine lv_lload hx hb dX0_moveToFront_103 (lv_at hl 1 rfl) ?_
    refine sl (D := D) (j := 0) (f := (vp_updL x.2.2.1 1 (x.2.2.1 0))) (x := (x.2.2.1 1)) (W' := (wC cI cJ b0 b1 b2 b3 ((upd (upd x.1 1 (x.1 0)) 0 (x.1 1)), (vp_updL (vp_updL x.2.1 1 (x.2.1 0)) 0 (x.2.1 1)), (vp_updL (vp_updL x.2.2.1 1 (x.2.2.1 0)) 0 (x.2.2.1 1)), x.2.2.2))) hx hb hK hP hD hS 3 1 rfl rfl (inL (by decide)) (by decide) dX0_moveToFront_105 rfl (fun H locs hP hD hS => ?_)
    exact retv (u := ((upd (upd x.1 1 (x.1 0)) 0 (x.1 1)), (vp_updL (vp_updL x.2.1 1 (x.2.1 0)) 0 (x.2.1 1)), (vp_updL (vp_updL x.2.2.1 1 (x.2.2.1 0)) 0 (x.2.2.1 1)), x.2.2.2)) hx hb hr hlocks hK hP hD hS dX0_moveToFront_106 (by unfold fnX0_moveToFront; (try dsimp only); rw [if_neg h1]; rw [if_pos (rfl : (1 : Int32) = (1 : Int32))]; (try exact rfl))
  by_cases h3 : a0 = (2 : Int32)
  · subst h3
    refine lv_aload_n hx hb dX0_moveToFront_0 rfl (lv_at hl 0 rfl) ?_
    refine va_get (D := D) (ci := 0) (v := .ref (b1)) hx hb hG inX0 hown hK hP 0 rfl rfl 0 (by decide) (hG _ kw25) (fun _ h9 => h9) rfl dX0_moveToFront_1 ?_
    refine lv_iload_n hx hb dX0_moveToFront_4 rfl (lv_at hl 1 rfl) ?_
    refine gi (D := D) (j := 2) (f := x.1) hx hb hK hP 1 0 rfl rfl (inL (by decide)) (by decide) dX0_moveToFront_5 ?_
    refine lv_istore_n (lv' := [(2, .int ((x.1 2))), (0, .ref (b0)), (1, .int ((2 : Int32)))]) hx hb dX0_moveToFront_6 rfl hl (by decide) rfl (fun ls hl => ?_)
    refine lv_aload_n hx hb dX0_moveToFront_7 rfl (lv_at hl 1 rfl) ?_
    refine va_get (D := D) (ci := 0) (v := .ref (b2)) hx hb hG inX0 hown hK hP 0 rfl rfl 1 (by decide) (hG _ kw26) (fun _ h9 => h9) rfl dX0_moveToFront_8 ?_
    refine lv_iload_n hx hb dX0_moveToFront_11 rfl (lv_at hl 2 rfl) ?_
    refine gl (D := D) (j := 2) (f := x.2.1) hx hb hK hP 2 1 rfl rfl (inL (by decide)) (by decide) dX0_moveToFront_12 ?_
    refine lv_lstore_n (lv' := [(3, .long ((x.2.1 2))), (2, .int ((x.1 2))), (0, .ref (b0)), (1, .int ((2 : Int32)))]) hx hb dX0_moveToFront_13 rfl hl (by decide) rfl (fun ls hl => ?_)
    refine lv_aload_n hx hb dX0_moveToFront_14 rfl (lv_at hl 2 rfl) ?_
    refine va_get (D := D) (ci := 0) (v := .ref (b3)) hx hb hG inX0 hown hK hP 0 rfl rfl 2 (by decide) (hG _ kw27) (fun _ h9 => h9) rfl dX0_moveToFront_15 ?_
    refine lv_iload_n hx hb dX0_moveToFront_18 rfl (lv_at hl 3 rfl) ?_
    refine gl (D := D) (j := 2) (f := x.2.2.1) hx hb hK hP 3 1 rfl rfl (inL (by decide)) (by decide) dX0_moveToFront_19 ?_
    refine lv_lstore (lv' := [(5, .long ((x.2.2.1 2))), (3, .long ((x.2.1 2))), (2, .int ((x.1 2))), (0, .ref (b0)), (1, .int ((2 : Int32)))]) hx hb dX0_moveToFront_20 hl (by decide) rfl (fun ls hl => ?_)
    refine lv_iload_n hx hb dX0_moveToFront_22 rfl (lv_at hl 4 rfl) ?_
    refine lv_istore (lv' := [(7, .int ((2 : Int32))), (5, .long ((x.2.2.1 2))), (3, .long ((x.2.1 2))), (2, .int ((x.1 2))), (0, .ref (b0)), (1, .int ((2 : Int32)))]) hx hb dX0_moveToFront_23 hl (by decide) rfl (fun ls hl => ?_)
    refine lv_iload hx hb dX0_moveToFront_25 (lv_at hl 0 rfl) ?_
    refine lv_if_le (tgt := 84) hx hb dX0_moveToFront_27 (by decide) (fun h9 => absurd h9 (by decide)) (fun _ => ?_)
    refine lv_aload_n hx hb dX0_moveToFront_30 rfl (lv_at hl 4 rfl) ?_
    refine va_get (D := D) (ci := 0) (v := .ref (b1)) hx hb hG inX0 hown hK hP 0 rfl rfl 0 (by decide) (hG _ kw25) (fun _ h9 => h9) rfl dX0_moveToFront_31 ?_
    refine lv_iload hx hb dX0_moveToFront_34 (lv_at hl 0 rfl) ?_
    refine lv_aload_n hx hb dX0_moveToFront_36 rfl (lv_at hl 4 rfl) ?_
    refine va_get (D := D) (ci := 0) (v := .ref (b1)) hx hb hG inX0 hown hK hP 0 rfl rfl 0 (by decide) (hG _ kw25) (fun _ h9 => h9) rfl dX0_moveToFront_37 ?_
    refine lv_iload hx hb dX0_moveToFront_40 (lv_at hl 0 rfl) ?_
    refine lv_iconst (v := 1) hx hb dX0_moveToFront_42 (by decide) ?_
    refine lv_isub hx hb dX0_moveToFront_43 ?_
    refine tI (y := 1) (by decide) ?_
    refine gi (D := D) (j := 1) (f := x.1) hx hb hK hP 1 0 rfl rfl (inL (by decide)) (by decide) dX0_moveToFront_44 ?_
    refine si (D := D) (j := 2) (f := x.1) (x := (x.1 1)) (W' := (wC cI cJ b0 b1 b2 b3 ((upd x.1 2 (x.1 1)), x.2.1, x.2.2.1, x.2.2.2))) hx hb hK hP hD hS 1 0 rfl rfl (inL (by decide)) (by decide) dX0_moveToFront_45 rfl (fun H locs hP hD hS => ?_)
    refine lv_aload_n hx hb dX0_moveToFront_46 rfl (lv_at hl 4 rfl) ?_
    refine va_get (D := D) (ci := 0) (v := .ref (b2)) hx hb hG inX0 hown hK hP 0 rfl rfl 1 (by decide) (hG _ kw26) (fun _ h9 => h9) rfl dX0_moveToFront_47 ?_
    refine lv_iload hx hb dX0_moveToFront_50 (lv_at hl 0 rfl) ?_
    refine lv_aload_n hx hb dX0_moveToFront_52 rfl (lv_at hl 4 rfl) ?_
    refine va_get (D := D) (ci := 0) (v := .ref (b2)) hx hb hG inX0 hown hK hP 0 rfl rfl 1 (by decide) (hG _ kw26) (fun _ h9 => h9) rfl dX0_moveToFront_53 ?_
    refine lv_iload hx hb dX0_moveToFront_56 (lv_at hl 0 rfl) ?_
    refine lv_iconst (v := 1) hx hb dX0_moveToFront_58 (by decide) ?_
    refine lv_isub hx hb dX0_moveToFront_59 ?_
    refine tI (y := 1) (by decide) ?_
    refine gl (D := D) (j := 1) (f := x.2.1) hx hb hK hP 2 1 rfl rfl (inL (by decide)) (by decide) dX0_moveToFront_60 ?_
    refine sl (D := D) (j := 2) (f := x.2.1) (x := (x.2.1 1)) (W' := (wC cI cJ b0 b1 b2 b3 ((upd x.1 2 (x.1 1)), (vp_updL x.2.1 2 (x.2.1 1)), x.2.2.1, x.2.2.2))) hx hb hK hP hD hS 2 1 rfl rfl (inL (by decide)) (by decide) dX0_moveToFront_61 rfl (fun H locs hP hD hS => ?_)
    refine lv_aload_n hx hb dX0_moveToFront_62 rfl (lv_at hl 4 rfl) ?_
    refine va_get (D := D) (ci := 0) (v := .ref (b3)) hx hb hG inX0 hown hK hP 0 rfl rfl 2 (by decide) (hG _ kw27) (fun _ h9 => h9) rfl dX0_moveToFront_63 ?_
    refine lv_iload hx hb dX0_moveToFront_66 (lv_at hl 0 rfl) ?_
    refine lv_aload_n hx hb dX0_moveToFront_68 rfl (lv_at hl 4 rfl) ?_
    refine va_get (D := D) (ci := 0) (v := .ref (b3)) hx hb hG inX0 hown hK hP 0 rfl rfl 2 (by decide) (hG _ kw27) (fun _ h9 => h9) rfl dX0_moveToFront_69 ?_
    refine lv_iload hx hb dX0_moveToFront_72 (lv_at hl 0 rfl) ?_
    refine lv_iconst (v := 1) hx hb dX0_moveToFront_74 (by decide) ?_
    refine lv_isub hx hb dX0_moveToFront_75 ?_
    refine tI (y := 1) (by decide) ?_
    refine gl (D := D) (j := 1) (f := x.2.2.1) hx hb hK hP 3 1 rfl rfl (inL (by decide)) (by decide) dX0_moveToFront_76 ?_
    refine sl (D := D) (j := 2) (f := x.2.2.1) (x := (x.2.2.1 1)) (W' := (wC cI cJ b0 b1 b2 b3 ((upd x.1 2 (x.1 1)), (vp_updL x.2.1 2 (x.2.1 1)), (vp_updL x.2.2.1 2 (x.2.2.1 1)), x.2.2.2))) hx hb hK hP hD hS 3 1 rfl rfl (inL (by decide)) (by decide) dX0_moveToFront_77 rfl (fun H locs hP hD hS => ?_)
    refine lv_iinc (k := 0) (v := (1 : Int32)) (lv' := [(7, .int ((1 : Int32))), (5, .long ((x.2.2.1 2))), (3, .long ((x.2.1 2))), (2, .int ((x.1 2))), (0, .ref (b0)), (1, .int ((2 : Int32)))]) hx hb dX0_moveToFront_78 hl rfl (by decide) (by decide) rfl (fun ls hl => ?_)
    refine lv_goto (tgt := 25) hx hb dX0_moveToFront_81 (by decide) ?_
    refine lv_iload hx hb dX0_moveToFront_25 (lv_at hl 0 rfl) ?_
    refine lv_if_le (tgt := 84) hx hb dX0_moveToFront_27 (by decide) (fun h9 => absurd h9 (by decide)) (fun _ => ?_)
    refine lv_aload_n hx hb dX0_moveToFront_30 rfl (lv_at hl 4 rfl) ?_
    refine va_get (D := D) (ci := 0) (v := .ref (b1)) hx hb hG inX0 hown hK hP 0 rfl rfl 0 (by decide) (hG _ kw25) (fun _ h9 => h9) rfl dX0_moveToFront_31 ?_
    refine lv_iload hx hb dX0_moveToFront_34 (lv_at hl 0 rfl) ?_
    refine lv_aload_n hx hb dX0_moveToFront_36 rfl (lv_at hl 4 rfl) ?_
    refine va_get (D := D) (ci := 0) (v := .ref (b1)) hx hb hG inX0 hown hK hP 0 rfl rfl 0 (by decide) (hG _ kw25) (fun _ h9 => h9) rfl dX0_moveToFront_37 ?_
    refine lv_iload hx hb dX0_moveToFront_40 (lv_at hl 0 rfl) ?_
    refine lv_iconst (v := 1) hx hb dX0_moveToFront_42 (by decide) ?_
    refine lv_isub hx hb dX0_moveToFront_43 ?_
    refine tI (y := 0) (by decide) ?_
    refine gi (D := D) (j := 0) (f := (upd x.1 2 (x.1 1))) hx hb hK hP 1 0 rfl rfl (inL (by decide)) (by decide) dX0_moveToFront_44 ?_
    refine si (D := D) (j := 1) (f := (upd x.1 2 (x.1 1))) (x := ((upd x.1 2 (x.1 1)) 0)) (W' := (wC cI cJ b0 b1 b2 b3 ((upd (upd x.1 2 (x.1 1)) 1 ((upd x.1 2 (x.1 1)) 0)), (vp_updL x.2.1 2 (x.2.1 1)), (vp_updL x.2.2.1 2 (x.2.2.1 1)), x.2.2.2))) hx hb hK hP hD hS 1 0 rfl rfl (inL (by decide)) (by decide) dX0_moveToFront_45 rfl (fun H locs hP hD hS => ?_)
    refine lv_aload_n hx hb dX0_moveToFront_46 rfl (lv_at hl 4 rfl) ?_
    refine va_get (D := D) (ci := 0) (v := .ref (b2)) hx hb hG inX0 hown hK hP 0 rfl rfl 1 (by decide) (hG _ kw26) (fun _ h9 => h9) rfl dX0_moveToFront_47 ?_
    refine lv_iload hx hb dX0_moveToFront_50 (lv_at hl 0 rfl) ?_
    refine lv_aload_n hx hb dX0_moveToFront_52 rfl (lv_at hl 4 rfl) ?_
    refine va_get (D := D) (ci := 0) (v := .ref (b2)) hx hb hG inX0 hown hK hP 0 rfl rfl 1 (by decide) (hG _ kw26) (fun _ h9 => h9) rfl dX0_moveToFront_53 ?_
    refine lv_iload hx hb dX0_moveToFront_56 (lv_at hl 0 rfl) ?_
    refine lv_iconst (v := 1) hx hb dX0_moveToFront_58 (by decide) ?_
    refine lv_isub hx hb dX0_moveToFront_59 ?_
    refine tI (y := 0) (by decide) ?_
    refine gl (D := D) (j := 0) (f := (vp_updL x.2.1 2 (x.2.1 1))) hx hb hK hP 2 1 rfl rfl (inL (by decide)) (by decide) dX0_moveToFront_60 ?_
    refine sl (D := D) (j := 1) (f := (vp_updL x.2.1 2 (x.2.1 1))) (x := ((vp_updL x.2.1 2 (x.2.1 1)) 0)) (W' := (wC cI cJ b0 b1 b2 b3 ((upd (upd x.1 2 (x.1 1)) 1 ((upd x.1 2 (x.1 1)) 0)), (vp_updL (vp_updL x.2.1 2 (x.2.1 1)) 1 ((vp_updL x.2.1 2 (x.2.1 1)) 0)), (vp_updL x.2.2.1 2 (x.2.2.1 1)), x.2.2.2))) hx hb hK hP hD hS 2 1 rfl rfl (inL (by decide)) (by decide) dX0_moveToFront_61 rfl (fun H locs hP hD hS => ?_)
    refine lv_aload_n hx hb dX0_moveToFront_62 rfl (lv_at hl 4 rfl) ?_
    refine va_get (D := D) (ci := 0) (v := .ref (b3)) hx hb hG inX0 hown hK hP 0 rfl rfl 2 (by decide) (hG _ kw27) (fun _ h9 => h9) rfl dX0_moveToFront_63 ?_
    refine lv_iload hx hb dX0_moveToFront_66 (lv_at hl 0 rfl) ?_
    refine lv_aload_n hx hb dX0_moveToFront_68 rfl (lv_at hl 4 rfl) ?_
    refine va_get (D := D) (ci := 0) (v := .ref (b3)) hx hb hG inX0 hown hK hP 0 rfl rfl 2 (by decide) (hG _ kw27) (fun _ h9 => h9) rfl dX0_moveToFront_69 ?_
    refine lv_iload hx hb dX0_moveToFront_72 (lv_at hl 0 rfl) ?_
    refine lv_iconst (v := 1) hx hb dX0_moveToFront_74 (by decide) ?_
    refine lv_isub hx hb dX0_moveToFront_75 ?_
    refine tI (y := 0) (by decide) ?_
    refine gl (D := D) (j := 0) (f := (vp_updL x.2.2.1 2 (x.2.2.1 1))) hx hb hK hP 3 1 rfl rfl (inL (by decide)) (by decide) dX0_moveToFront_76 ?_
    refine sl (D := D) (j := 1) (f := (vp_updL x.2.2.1 2 (x.2.2.1 1))) (x := ((vp_updL x.2.2.1 2 (x.2.2.1 1)) 0)) (W' := (wC cI cJ b0 b1 b2 b3 ((upd (upd x.1 2 (x.1 1)) 1 ((upd x.1 2 (x.1 1)) 0)), (vp_updL (vp_updL x.2.1 2 (x.2.1 1)) 1 ((vp_updL x.2.1 2 (x.2.1 1)) 0)), (vp_updL (vp_updL x.2.2.1 2 (x.2.2.1 1)) 1 ((vp_updL x.2.2.1 2 (x.2.2.1 1)) 0)), x.2.2.2))) hx hb hK hP hD hS 3 1 rfl rfl (inL (by decide)) (by decide) dX0_moveToFront_77 rfl (fun H locs hP hD hS => ?_)
    refine lv_iinc (k := 0) (v := (0 : Int32)) (lv' := [(7, .int ((0 : Int32))), (5, .long ((x.2.2.1 2))), (3, .long ((x.2.1 2))), (2, .int ((x.1 2))), (0, .ref (b0)), (1, .int ((2 : Int32)))]) hx hb dX0_moveToFront_78 hl rfl (by decide) (by decide) rfl (fun ls hl => ?_)
    refine lv_goto (tgt := 25) hx hb dX0_moveToFront_81 (by decide) ?_
    refine lv_iload hx hb dX0_moveToFront_25 (lv_at hl 0 rfl) ?_
    refine lv_if_le (tgt := 84) hx hb dX0_moveToFront_27 (by decide) (fun _ => ?_) (fun h9 => absurd (by decide) h9)
    refine lv_aload_n hx hb dX0_moveToFront_84 rfl (lv_at hl 4 rfl) ?_
    refine va_get (D := D) (ci := 0) (v := .ref (b1)) hx hb hG inX0 hown hK hP 0 rfl rfl 0 (by decide) (hG _ kw25) (fun _ h9 => h9) rfl dX0_moveToFront_85 ?_
    refine lv_iconst (v := 0) hx hb dX0_moveToFront_88 (by decide) ?_
    refine lv_iload_n hx hb dX0_moveToFront_89 rfl (lv_at hl 3 rfl) ?_
    refine si (D := D) (j := 0) (f := (upd (upd x.1 2 (x.1 1)) 1 ((upd x.1 2 (x.1 1)) 0))) (x := (x.1 2)) (W' := (wC cI cJ b0 b1 b2 b3 ((upd (upd (upd x.1 2 (x.1 1)) 1 ((upd x.1 2 (x.1 1)) 0)) 0 (x.1 2)), (vp_updL (vp_updL x.2.1 2 (x.2.1 1)) 1 ((vp_updL x.2.1 2 (x.2.1 1)) 0)), (vp_updL (vp_updL x.2.2.1 2 (x.2.2.1 1)) 1 ((vp_updL x.2.2.1 2 (x.2.2.1 1)) 0)), x.2.2.2))) hx hb hK hP hD hS 1 0 rfl rfl (inL (by decide)) (by decide) dX0_moveToFront_90 rfl (fun H locs hP hD hS => ?_)
    refine lv_aload_n hx hb dX0_moveToFront_91 rfl (lv_at hl 4 rfl) ?_
    refine va_get (D := D) (ci := 0) (v := .ref (b2)) hx hb hG inX0 hown hK hP 0 rfl rfl 1 (by decide) (hG _ kw26) (fun _ h9 => h9) rfl dX0_moveToFront_92 ?_
    refine lv_iconst (v := 0) hx hb dX0_moveToFront_95 (by decide) ?_
    refine lv_lload_n hx hb dX0_moveToFront_96 rfl (lv_at hl 2 rfl) ?_
    refine sl (D := D) (j := 0) (f := (vp_updL (vp_updL x.2.1 2 (x.2.1 1)) 1 ((vp_updL x.2.1 2 (x.2.1 1)) 0))) (x := (x.2.1 2)) (W' := (wC cI cJ b0 b1 b2 b3 ((upd (upd (upd x.1 2 (x.1 1)) 1 ((upd x.1 2 (x.1 1)) 0)) 0 (x.1 2)), (vp_updL (vp_updL (vp_updL x.2.1 2 (x.2.1 1)) 1 ((vp_updL x.2.1 2 (x.2.1 1)) 0)) 0 (x.2.1 2)), (vp_updL (vp_updL x.2.2.1 2 (x.2.2.1 1)) 1 ((vp_updL x.2.2.1 2 (x.2.2.1 1)) 0)), x.2.2.2))) hx hb hK hP hD hS 2 1 rfl rfl (inL (by decide)) (by decide) dX0_moveToFront_97 rfl (fun H locs hP hD hS => ?_)
    refine lv_aload_n hx hb dX0_moveToFront_98 rfl (lv_at hl 4 rfl) ?_
    refine va_get (D := D) (ci := 0) (v := .ref (b3)) hx hb hG inX0 hown hK hP 0 rfl rfl 2 (by decide) (hG _ kw27) (fun _ h9 => h9) rfl dX0_moveToFront_99 ?_
    refine lv_iconst (v := 0) hx hb dX0_moveToFront_102 (by decide) ?_
    refine lv_lload hx hb dX0_moveToFront_103 (lv_at hl 1 rfl) ?_
    refine sl (D := D) (j := 0) (f := (vp_updL (vp_updL x.2.2.1 2 (x.2.2.1 1)) 1 ((vp_updL x.2.2.1 2 (x.2.2.1 1)) 0))) (x := (x.2.2.1 2)) (W' := (wC cI cJ b0 b1 b2 b3 ((upd (upd (upd x.1 2 (x.1 1)) 1 ((upd x.1 2 (x.1 1)) 0)) 0 (x.1 2)), (vp_updL (vp_updL (vp_updL x.2.1 2 (x.2.1 1)) 1 ((vp_updL x.2.1 2 (x.2.1 1)) 0)) 0 (x.2.1 2)), (vp_updL (vp_updL (vp_updL x.2.2.1 2 (x.2.2.1 1)) 1 ((vp_updL x.2.2.1 2 (x.2.2.1 1)) 0)) 0 (x.2.2.1 2)), x.2.2.2))) hx hb hK hP hD hS 3 1 rfl rfl (inL (by decide)) (by decide) dX0_moveToFront_105 rfl (fun H locs hP hD hS => ?_)
    exact retv (u := ((upd (upd (upd x.1 2 (x.1 1)) 1 ((upd x.1 2 (x.1 1)) 0)) 0 (x.1 2)), (vp_updL (vp_updL (vp_updL x.2.1 2 (x.2.1 1)) 1 ((vp_updL x.2.1 2 (x.2.1 1)) 0)) 0 (x.2.1 2)), (vp_updL (vp_updL (vp_updL x.2.2.1 2 (x.2.2.1 1)) 1 ((vp_updL x.2.2.1 2 (x.2.2.1 1)) 0)) 0 (x.2.2.1 2)), x.2.2.2)) hx hb hr hlocks hK hP hD hS dX0_moveToFront_106 (by unfold fnX0_moveToFront; (try dsimp only); rw [if_neg h1]; rw [if_neg h2]; rw [if_pos (rfl : (2 : Int32) = (2 : Int32))]; (try exact rfl))
  have h4 : a0 = (3 : Int32) := c4l g0 h1 h2 h3
  subst h4
  refine lv_aload_n hx hb dX0_moveToFront_0 rfl (lv_at hl 0 rfl) ?_
  refine va_get (D := D) (ci := 0) (v := .ref (b1)) hx hb hG inX0 hown hK hP 0 rfl rfl 0 (by decide) (hG _ kw25) (fun _ h9 => h9) rfl dX0_moveToFront_1 ?_
  refine lv_iload_n hx hb dX0_moveToFront_4 rfl (lv_at hl 1 rfl) ?_
  refine gi (D := D) (j := 3) (f := x.1) hx hb hK hP 1 0 rfl rfl (inL (by decide)) (by decide) dX0_moveToFront_5 ?_
  refine lv_istore_n (lv' := [(2, .int ((x.1 3))), (0, .ref (b0)), (1, .int ((3 : Int32)))]) hx hb dX0_moveToFront_6 rfl hl (by decide) rfl (fun ls hl => ?_)
  refine lv_aload_n hx hb dX0_moveToFront_7 rfl (lv_at hl 1 rfl) ?_
  refine va_get (D := D) (ci := 0) (v := .ref (b2)) hx hb hG inX0 hown hK hP 0 rfl rfl 1 (by decide) (hG _ kw26) (fun _ h9 => h9) rfl dX0_moveToFront_8 ?_
  refine lv_iload_n hx hb dX0_moveToFront_11 rfl (lv_at hl 2 rfl) ?_
  refine gl (D := D) (j := 3) (f := x.2.1) hx hb hK hP 2 1 rfl rfl (inL (by decide)) (by decide) dX0_moveToFront_12 ?_
  refine lv_lstore_n (lv' := [(3, .long ((x.2.1 3))), (2, .int ((x.1 3))), (0, .ref (b0)), (1, .int ((3 : Int32)))]) hx hb dX0_moveToFront_13 rfl hl (by decide) rfl (fun ls hl => ?_)
  refine lv_aload_n hx hb dX0_moveToFront_14 rfl (lv_at hl 2 rfl) ?_
  refine va_get (D := D) (ci := 0) (v := .ref (b3)) hx hb hG inX0 hown hK hP 0 rfl rfl 2 (by decide) (hG _ kw27) (fun _ h9 => h9) rfl dX0_moveToFront_15 ?_
  refine lv_iload_n hx hb dX0_moveToFront_18 rfl (lv_at hl 3 rfl) ?_
  refine gl (D := D) (j := 3) (f := x.2.2.1) hx hb hK hP 3 1 rfl rfl (inL (by decide)) (by decide) dX0_moveToFront_19 ?_
  refine lv_lstore (lv' := [(5, .long ((x.2.2.1 3))), (3, .long ((x.2.1 3))), (2, .int ((x.1 3))), (0, .ref (b0)), (1, .int ((3 : Int32)))]) hx hb dX0_moveToFront_20 hl (by decide) rfl (fun ls hl => ?_)
  refine lv_iload_n hx hb dX0_moveToFront_22 rfl (lv_at hl 4 rfl) ?_
  refine lv_istore (lv' := [(7, .int ((3 : Int32))), (5, .long ((x.2.2.1 3))), (3, .long ((x.2.1 3))), (2, .int ((x.1 3))), (0, .ref (b0)), (1, .int ((3 : Int32)))]) hx hb dX0_moveToFront_23 hl (by decide) rfl (fun ls hl => ?_)
  refine lv_iload hx hb dX0_moveToFront_25 (lv_at hl 0 rfl) ?_
  refine lv_if_le (tgt := 84) hx hb dX0_moveToFront_27 (by decide) (fun h9 => absurd h9 (by decide)) (fun _ => ?_)
  refine lv_aload_n hx hb dX0_moveToFront_30 rfl (lv_at hl 4 rfl) ?_
  refine va_get (D := D) (ci := 0) (v := .ref (b1)) hx hb hG inX0 hown hK hP 0 rfl rfl 0 (by decide) (hG _ kw25) (fun _ h9 => h9) rfl dX0_moveToFront_31 ?_
  refine lv_iload hx hb dX0_moveToFront_34 (lv_at hl 0 rfl) ?_
  refine lv_aload_n hx hb dX0_moveToFront_36 rfl (lv_at hl 4 rfl) ?_
  refine va_get (D := D) (ci := 0) (v := .ref (b1)) hx hb hG inX0 hown hK hP 0 rfl rfl 0 (by decide) (hG _ kw25) (fun _ h9 => h9) rfl dX0_moveToFront_37 ?_
  refine lv_iload hx hb dX0_moveToFront_40 (lv_at hl 0 rfl) ?_
  refine lv_iconst (v := 1) hx hb dX0_moveToFront_42 (by decide) ?_
  refine lv_isub hx hb dX0_moveToFront_43 ?_
  refine tI (y := 2) (by decide) ?_
  refine gi (D := D) (j := 2) (f := x.1) hx hb hK hP 1 0 rfl rfl (inL (by decide)) (by decide) dX0_moveToFront_44 ?_
  refine si (D := D) (j := 3) (f := x.1) (x := (x.1 2)) (W' := (wC cI cJ b0 b1 b2 b3 ((upd x.1 3 (x.1 2)), x.2.1, x.2.2.1, x.2.2.2))) hx hb hK hP hD hS 1 0 rfl rfl (inL (by decide)) (by decide) dX0_moveToFront_45 rfl (fun H locs hP hD hS => ?_)
  refine lv_aload_n hx hb dX0_moveToFront_46 rfl (lv_at hl 4 rfl) ?_
  refine va_get (D := D) (ci := 0) (v := .ref (b2)) hx hb hG inX0 hown hK hP 0 rfl rfl 1 (by decide) (hG _ kw26) (fun _ h9 => h9) rfl dX0_moveToFront_47 ?_
  refine lv_iload hx hb dX0_moveToFront_50 (lv_at hl 0 rfl) ?_
  refine lv_aload_n hx hb dX0_moveToFront_52 rfl (lv_at hl 4 rfl) ?_
  refine va_get (D := D) (ci := 0) (v := .ref (b2)) hx hb hG inX0 hown hK hP 0 rfl rfl 1 (by decide) (hG _ kw26) (fun _ h9 => h9) rfl dX0_moveToFront_53 ?_
  refine lv_iload hx hb dX0_moveToFront_56 (lv_at hl 0 rfl) ?_
  refine lv_iconst (v := 1) hx hb dX0_moveToFront_58 (by decide) ?_
  refine lv_isub hx hb dX0_moveToFront_59 ?_
  refine tI (y := 2) (by decide) ?_
  refine gl (D := D) (j := 2) (f := x.2.1) hx hb hK hP 2 1 rfl rfl (inL (by decide)) (by decide) dX0_moveToFront_60 ?_
  refine sl (D := D) (j := 3) (f := x.2.1) (x := (x.2.1 2)) (W' := (wC cI cJ b0 b1 b2 b3 ((upd x.1 3 (x.1 2)), (vp_updL x.2.1 3 (x.2.1 2)), x.2.2.1, x.2.2.2))) hx hb hK hP hD hS 2 1 rfl rfl (inL (by decide)) (by decide) dX0_moveToFront_61 rfl (fun H locs hP hD hS => ?_)
  refine lv_aload_n hx hb dX0_moveToFront_62 rfl (lv_at hl 4 rfl) ?_
  refine va_get (D := D) (ci := 0) (v := .ref (b3)) hx hb hG inX0 hown hK hP 0 rfl rfl 2 (by decide) (hG _ kw27) (fun _ h9 => h9) rfl dX0_moveToFront_63 ?_
  refine lv_iload hx hb dX0_moveToFront_66 (lv_at hl 0 rfl) ?_
  refine lv_aload_n hx hb dX0_moveToFront_68 rfl (lv_at hl 4 rfl) ?_
  refine va_get (D := D) (ci := 0) (v := .ref (b3)) hx hb hG inX0 hown hK hP 0 rfl rfl 2 (by decide) (hG _ kw27) (fun _ h9 => h9) rfl dX0_moveToFront_69 ?_
  refine lv_iload hx hb dX0_moveToFront_72 (lv_at hl 0 rfl) ?_
  refine lv_iconst (v := 1) hx hb dX0_moveToFront_74 (by decide) ?_
  refine lv_isub hx hb dX0_moveToFront_75 ?_
  refine tI (y := 2) (by decide) ?_
  refine gl (D := D) (j := 2) (f := x.2.2.1) hx hb hK hP 3 1 rfl rfl (inL (by decide)) (by decide) dX0_moveToFront_76 ?_
  refine sl (D := D) (j := 3) (f := x.2.2.1) (x := (x.2.2.1 2)) (W' := (wC cI cJ b0 b1 b2 b3 ((upd x.1 3 (x.1 2)), (vp_updL x.2.1 3 (x.2.1 2)), (vp_updL x.2.2.1 3 (x.2.2.1 2)), x.2.2.2))) hx hb hK hP hD hS 3 1 rfl rfl (inL (by decide)) (by decide) dX0_moveToFront_77 rfl (fun H locs hP hD hS => ?_)
  refine lv_iinc (k := 0) (v := (2 : Int32)) (lv' := [(7, .int ((2 : Int32))), (5, .long ((x.2.2.1 3))), (3, .long ((x.2.1 3))), (2, .int ((x.1 3))), (0, .ref (b0)), (1, .int ((3 : Int32)))]) hx hb dX0_moveToFront_78 hl rfl (by decide) (by decide) rfl (fun ls hl => ?_)
  refine lv_goto (tgt := 25) hx hb dX0_moveToFront_81 (by decide) ?_
  refine lv_iload hx hb dX0_moveToFront_25 (lv_at hl 0 rfl) ?_
  refine lv_if_le (tgt := 84) hx hb dX0_moveToFront_27 (by decide) (fun h9 => absurd h9 (by decide)) (fun _ => ?_)
  refine lv_aload_n hx hb dX0_moveToFront_30 rfl (lv_at hl 4 rfl) ?_
  refine va_get (D := D) (ci := 0) (v := .ref (b1)) hx hb hG inX0 hown hK hP 0 rfl rfl 0 (by decide) (hG _ kw25) (fun _ h9 => h9) rfl dX0_moveToFront_31 ?_
  refine lv_iload hx hb dX0_moveToFront_34 (lv_at hl 0 rfl) ?_
  refine lv_aload_n hx hb dX0_moveToFront_36 rfl (lv_at hl 4 rfl) ?_
  refine va_get (D := D) (ci := 0) (v := .ref (b1)) hx hb hG inX0 hown hK hP 0 rfl rfl 0 (by decide) (hG _ kw25) (fun _ h9 => h9) rfl dX0_moveToFront_37 ?_
  refine lv_iload hx hb dX0_moveToFront_40 (lv_at hl 0 rfl) ?_
  refine lv_iconst (v := 1) hx hb dX0_moveToFront_42 (by decide) ?_
  refine lv_isub hx hb dX0_moveToFront_43 ?_
  refine tI (y := 1) (by decide) ?_
  refine gi (D := D) (j := 1) (f := (upd x.1 3 (x.1 2))) hx hb hK hP 1 0 rfl rfl (inL (by decide)) (by decide) dX0_moveToFront_44 ?_
  refine si (D := D) (j := 2) (f := (upd x.1 3 (x.1 2))) (x := ((upd x.1 3 (x.1 2)) 1)) (W' := (wC cI cJ b0 b1 b2 b3 ((upd (upd x.1 3 (x.1 2)) 2 ((upd x.1 3 (x.1 2)) 1)), (vp_updL x.2.1 3 (x.2.1 2)), (vp_updL x.2.2.1 3 (x.2.2.1 2)), x.2.2.2))) hx hb hK hP hD hS 1 0 rfl rfl (inL (by decide)) (by decide) dX0_moveToFront_45 rfl (fun H locs hP hD hS => ?_)
  refine lv_aload_n hx hb dX0_moveToFront_46 rfl (lv_at hl 4 rfl) ?_
  refine va_get (D := D) (ci := 0) (v := .ref (b2)) hx hb hG inX0 hown hK hP 0 rfl rfl 1 (by decide) (hG _ kw26) (fun _ h9 => h9) rfl dX0_moveToFront_47 ?_
  refine lv_iload hx hb dX0_moveToFront_50 (lv_at hl 0 rfl) ?_
  refine lv_aload_n hx hb dX0_moveToFront_52 rfl (lv_at hl 4 rfl) ?_
  refine va_get (D := D) (ci := 0) (v := .ref (b2)) hx hb hG inX0 hown hK hP 0 rfl rfl 1 (by decide) (hG _ kw26) (fun _ h9 => h9) rfl dX0_moveToFront_53 ?_
  refine lv_iload hx hb dX0_moveToFront_56 (lv_at hl 0 rfl) ?_
  refine lv_iconst (v := 1) hx hb dX0_moveToFront_58 (by decide) ?_
  refine lv_isub hx hb dX0_moveToFront_59 ?_
  refine tI (y := 1) (by decide) ?_
  refine gl (D := D) (j := 1) (f := (vp_updL x.2.1 3 (x.2.1 2))) hx hb hK hP 2 1 rfl rfl (inL (by decide)) (by decide) dX0_moveToFront_60 ?_
  refine sl (D := D) (j := 2) (f := (vp_updL x.2.1 3 (x.2.1 2))) (x := ((vp_updL x.2.1 3 (x.2.1 2)) 1)) (W' := (wC cI cJ b0 b1 b2 b3 ((upd (upd x.1 3 (x.1 2)) 2 ((upd x.1 3 (x.1 2)) 1)), (vp_updL (vp_updL x.2.1 3 (x.2.1 2)) 2 ((vp_updL x.2.1 3 (x.2.1 2)) 1)), (vp_updL x.2.2.1 3 (x.2.2.1 2)), x.2.2.2))) hx hb hK hP hD hS 2 1 rfl rfl (inL (by decide)) (by decide) dX0_moveToFront_61 rfl (fun H locs hP hD hS => ?_)
  refine lv_aload_n hx hb dX0_moveToFront_62 rfl (lv_at hl 4 rfl) ?_
  refine va_get (D := D) (ci := 0) (v := .ref (b3)) hx hb hG inX0 hown hK hP 0 rfl rfl 2 (by decide) (hG _ kw27) (fun _ h9 => h9) rfl dX0_moveToFront_63 ?_
  refine lv_iload hx hb dX0_moveToFront_66 (lv_at hl 0 rfl) ?_
  refine lv_aload_n hx hb dX0_moveToFront_68 rfl (lv_at hl 4 rfl) ?_
  refine va_get (D := D) (ci := 0) (v := .ref (b3)) hx hb hG inX0 hown hK hP 0 rfl rfl 2 (by decide) (hG _ kw27) (fun _ h9 => h9) rfl dX0_moveToFront_69 ?_
  refine lv_iload hx hb dX0_moveToFront_72 (lv_at hl 0 rfl) ?_
  refine lv_iconst (v := 1) hx hb dX0_moveToFront_74 (by decide) ?_
  refine lv_isub hx hb dX0_moveToFront_75 ?_
  refine tI (y := 1) (by decide) ?_
  refine gl (D := D) (j := 1) (f := (vp_updL x.2.2.1 3 (x.2.2.1 2))) hx hb hK hP 3 1 rfl rfl (inL (by decide)) (by decide) dX0_moveToFront_76 ?_
  refine sl (D := D) (j := 2) (f := (vp_updL x.2.2.1 3 (x.2.2.1 2))) (x := ((vp_updL x.2.2.1 3 (x.2.2.1 2)) 1)) (W' := (wC cI cJ b0 b1 b2 b3 ((upd (upd x.1 3 (x.1 2)) 2 ((upd x.1 3 (x.1 2)) 1)), (vp_updL (vp_updL x.2.1 3 (x.2.1 2)) 2 ((vp_updL x.2.1 3 (x.2.1 2)) 1)), (vp_updL (vp_updL x.2.2.1 3 (x.2.2.1 2)) 2 ((vp_updL x.2.2.1 3 (x.2.2.1 2)) 1)), x.2.2.2))) hx hb hK hP hD hS 3 1 rfl rfl (inL (by decide)) (by decide) dX0_moveToFront_77 rfl (fun H locs hP hD hS => ?_)
  refine lv_iinc (k := 0) (v := (1 : Int32)) (lv' := [(7, .int ((1 : Int32))), (5, .long ((x.2.2.1 3))), (3, .long ((x.2.1 3))), (2, .int ((x.1 3))), (0, .ref (b0)), (1, .int ((3 : Int32)))]) hx hb dX0_moveToFront_78 hl rfl (by decide) (by decide) rfl (fun ls hl => ?_)
  refine lv_goto (tgt := 25) hx hb dX0_moveToFront_81 (by decide) ?_
  refine lv_iload hx hb dX0_moveToFront_25 (lv_at hl 0 rfl) ?_
  refine lv_if_le (tgt := 84) hx hb dX0_moveToFront_27 (by decide) (fun h9 => absurd h9 (by decide)) (fun _ => ?_)
  refine lv_aload_n hx hb dX0_moveToFront_30 rfl (lv_at hl 4 rfl) ?_
  refine va_get (D := D) (ci := 0) (v := .ref (b1)) hx hb hG inX0 hown hK hP 0 rfl rfl 0 (by decide) (hG _ kw25) (fun _ h9 => h9) rfl dX0_moveToFront_31 ?_
  refine lv_iload hx hb dX0_moveToFront_34 (lv_at hl 0 rfl) ?_
  refine lv_aload_n hx hb dX0_moveToFront_36 rfl (lv_at hl 4 rfl) ?_
  refine va_get (D := D) (ci := 0) (v := .ref (b1)) hx hb hG inX0 hown hK hP 0 rfl rfl 0 (by decide) (hG _ kw25) (fun _ h9 => h9) rfl dX0_moveToFront_37 ?_
  refine lv_iload hx hb dX0_moveToFront_40 (lv_at hl 0 rfl) ?_
  refine lv_iconst (v := 1) hx hb dX0_moveToFront_42 (by decide) ?_
  refine lv_isub hx hb dX0_moveToFront_43 ?_
  refine tI (y := 0) (by decide) ?_
  refine gi (D := D) (j := 0) (f := (upd (upd x.1 3 (x.1 2)) 2 ((upd x.1 3 (x.1 2)) 1))) hx hb hK hP 1 0 rfl rfl (inL (by decide)) (by decide) dX0_moveToFront_44 ?_
  refine si (D := D) (j := 1) (f := (upd (upd x.1 3 (x.1 2)) 2 ((upd x.1 3 (x.1 2)) 1))) (x := ((upd (upd x.1 3 (x.1 2)) 2 ((upd x.1 3 (x.1 2)) 1)) 0)) (W' := (wC cI cJ b0 b1 b2 b3 ((upd (upd (upd x.1 3 (x.1 2)) 2 ((upd x.1 3 (x.1 2)) 1)) 1 ((upd (upd x.1 3 (x.1 2)) 2 ((upd x.1 3 (x.1 2)) 1)) 0)), (vp_updL (vp_updL x.2.1 3 (x.2.1 2)) 2 ((vp_updL x.2.1 3 (x.2.1 2)) 1)), (vp_updL (vp_updL x.2.2.1 3 (x.2.2.1 2)) 2 ((vp_updL x.2.2.1 3 (x.2.2.1 2)) 1)), x.2.2.2))) hx hb hK hP hD hS 1 0 rfl rfl (inL (by decide)) (by decide) dX0_moveToFront_45 rfl (fun H locs hP hD hS => ?_)
  refine lv_aload_n hx hb dX0_moveToFront_46 rfl (lv_at hl 4 rfl) ?_
  refine va_get (D := D) (ci := 0) (v := .ref (b2)) hx hb hG inX0 hown hK hP 0 rfl rfl 1 (by decide) (hG _ kw26) (fun _ h9 => h9) rfl dX0_moveToFront_47 ?_
  refine lv_iload hx hb dX0_moveToFront_50 (lv_at hl 0 rfl) ?_
  refine lv_aload_n hx hb dX0_moveToFront_52 rfl (lv_at hl 4 rfl) ?_
  refine va_get (D := D) (ci := 0) (v := .ref (b2)) hx hb hG inX0 hown hK hP 0 rfl rfl 1 (by decide) (hG _ kw26) (fun _ h9 => h9) rfl dX0_moveToFront_53 ?_
  refine lv_iload hx hb dX0_moveToFront_56 (lv_at hl 0 rfl) ?_
  refine lv_iconst (v := 1) hx hb dX0_moveToFront_58 (by decide) ?_
  refine lv_isub hx hb dX0_moveToFront_59 ?_
  refine tI (y := 0) (by decide) ?_
  refine gl (D := D) (j := 0) (f := (vp_updL (vp_updL x.2.1 3 (x.2.1 2)) 2 ((vp_updL x.2.1 3 (x.2.1 2)) 1))) hx hb hK hP 2 1 rfl rfl (inL (by decide)) (by decide) dX0_moveToFront_60 ?_
  refine sl (D := D) (j := 1) (f := (vp_updL (vp_updL x.2.1 3 (x.2.1 2)) 2 ((vp_updL x.2.1 3 (x.2.1 2)) 1))) (x := ((vp_updL (vp_updL x.2.1 3 (x.2.1 2)) 2 ((vp_updL x.2.1 3 (x.2.1 2)) 1)) 0)) (W' := (wC cI cJ b0 b1 b2 b3 ((upd (upd (upd x.1 3 (x.1 2)) 2 ((upd x.1 3 (x.1 2)) 1)) 1 ((upd (upd x.1 3 (x.1 2)) 2 ((upd x.1 3 (x.1 2)) 1)) 0)), (vp_updL (vp_updL (vp_updL x.2.1 3 (x.2.1 2)) 2 ((vp_updL x.2.1 3 (x.2.1 2)) 1)) 1 ((vp_updL (vp_updL x.2.1 3 (x.2.1 2)) 2 ((vp_updL x.2.1 3 (x.2.1 2)) 1)) 0)), (vp_updL (vp_updL x.2.2.1 3 (x.2.2.1 2)) 2 ((vp_updL x.2.2.1 3 (x.2.2.1 2)) 1)), x.2.2.2))) hx hb hK hP hD hS 2 1 rfl rfl (inL (by decide)) (by decide) dX0_moveToFront_61 rfl (fun H locs hP hD hS => ?_)
  refine lv_aload_n hx hb dX0_moveToFront_62 rfl (lv_at hl 4 rfl) ?_
  refine va_get (D := D) (ci := 0) (v := .ref (b3)) hx hb hG inX0 hown hK hP 0 rfl rfl 2 (by decide) (hG _ kw27) (fun _ h9 => h9) rfl dX0_moveToFront_63 ?_
  refine lv_iload hx hb dX0_moveToFront_66 (lv_at hl 0 rfl) ?_
  refine lv_aload_n hx hb dX0_moveToFront_68 rfl (lv_at hl 4 rfl) ?_
  refine va_get (D := D) (ci := 0) (v := .ref (b3)) hx hb hG inX0 hown hK hP 0 rfl rfl 2 (by decide) (hG _ kw27) (fun _ h9 => h9) rfl dX0_moveToFront_69 ?_
  refine lv_iload hx hb dX0_moveToFront_72 (lv_at hl 0 rfl) ?_
  refine lv_iconst (v := 1) hx hb dX0_moveToFront_74 (by decide) ?_
  refine lv_isub hx hb dX0_moveToFront_75 ?_
  refine tI (y := 0) (by decide) ?_
  refine gl (D := D) (j := 0) (f := (vp_updL (vp_updL x.2.2.1 3 (x.2.2.1 2)) 2 ((vp_updL x.2.2.1 3 (x.2.2.1 2)) 1))) hx hb hK hP 3 1 rfl rfl (inL (by decide)) (by decide) dX0_moveToFront_76 ?_
  refine sl (D := D) (j := 1) (f := (vp_updL (vp_updL x.2.2.1 3 (x.2.2.1 2)) 2 ((vp_updL x.2.2.1 3 (x.2.2.1 2)) 1))) (x := ((vp_updL (vp_updL x.2.2.1 3 (x.2.2.1 2)) 2 ((vp_updL x.2.2.1 3 (x.2.2.1 2)) 1)) 0)) (W' := (wC cI cJ b0 b1 b2 b3 ((upd (upd (upd x.1 3 (x.1 2)) 2 ((upd x.1 3 (x.1 2)) 1)) 1 ((upd (upd x.1 3 (x.1 2)) 2 ((upd x.1 3 (x.1 2)) 1)) 0)), (vp_updL (vp_updL (vp_updL x.2.1 3 (x.2.1 2)) 2 ((vp_updL x.2.1 3 (x.2.1 2)) 1)) 1 ((vp_updL (vp_updL x.2.1 3 (x.2.1 2)) 2 ((vp_updL x.2.1 3 (x.2.1 2)) 1)) 0)), (vp_updL (vp_updL (vp_updL x.2.2.1 3 (x.2.2.1 2)) 2 ((vp_updL x.2.2.1 3 (x.2.2.1 2)) 1)) 1 ((vp_updL (vp_updL x.2.2.1 3 (x.2.2.1 2)) 2 ((vp_updL x.2.2.1 3 (x.2.2.1 2)) 1)) 0)), x.2.2.2))) hx hb hK hP hD hS 3 1 rfl rfl (inL (by decide)) (by decide) dX0_moveToFront_77 rfl (fun H locs hP hD hS => ?_)
  refine lv_iinc (k := 0) (v := (0 : Int32)) (lv' := [(7, .int ((0 : Int32))), (5, .long ((x.2.2.1 3))), (3, .long ((x.2.1 3))), (2, .int ((x.1 3))), (0, .ref (b0)), (1, .int ((3 : Int32)))]) hx hb dX0_moveToFront_78 hl rfl (by decide) (by decide) rfl (fun ls hl => ?_)
  refine lv_goto (tgt := 25) hx hb dX0_moveToFront_81 (by decide) ?_
  refine lv_iload hx hb dX0_moveToFront_25 (lv_at hl 0 rfl) ?_
  refine lv_if_le (tgt := 84) hx hb dX0_moveToFront_27 (by decide) (fun _ => ?_) (fun h9 => absurd (by decide) h9)
  refine lv_aload_n hx hb dX0_moveToFront_84 rfl (lv_at hl 4 rfl) ?_
  refine va_get (D := D) (ci := 0) (v := .ref (b1)) hx hb hG inX0 hown hK hP 0 rfl rfl 0 (by decide) (hG _ kw25) (fun _ h9 => h9) rfl dX0_moveToFront_85 ?_
  refine lv_iconst (v := 0) hx hb dX0_moveToFront_88 (by decide) ?_
  refine lv_iload_n hx hb dX0_moveToFront_89 rfl (lv_at hl 3 rfl) ?_
  refine si (D := D) (j := 0) (f := (upd (upd (upd x.1 3 (x.1 2)) 2 ((upd x.1 3 (x.1 2)) 1)) 1 ((upd (upd x.1 3 (x.1 2)) 2 ((upd x.1 3 (x.1 2)) 1)) 0))) (x := (x.1 3)) (W' := (wC cI cJ b0 b1 b2 b3 ((upd (upd (upd (upd x.1 3 (x.1 2)) 2 ((upd x.1 3 (x.1 2)) 1)) 1 ((upd (upd x.1 3 (x.1 2)) 2 ((upd x.1 3 (x.1 2)) 1)) 0)) 0 (x.1 3)), (vp_updL (vp_updL (vp_updL x.2.1 3 (x.2.1 2)) 2 ((vp_updL x.2.1 3 (x.2.1 2)) 1)) 1 ((vp_updL (vp_updL x.2.1 3 (x.2.1 2)) 2 ((vp_updL x.2.1 3 (x.2.1 2)) 1)) 0)), (vp_updL (vp_updL (vp_updL x.2.2.1 3 (x.2.2.1 2)) 2 ((vp_updL x.2.2.1 3 (x.2.2.1 2)) 1)) 1 ((vp_updL (vp_updL x.2.2.1 3 (x.2.2.1 2)) 2 ((vp_updL x.2.2.1 3 (x.2.2.1 2)) 1)) 0)), x.2.2.2))) hx hb hK hP hD hS 1 0 rfl rfl (inL (by decide)) (by decide) dX0_moveToFront_90 rfl (fun H locs hP hD hS => ?_)
  refine lv_aload_n hx hb dX0_moveToFront_91 rfl (lv_at hl 4 rfl) ?_
  refine va_get (D := D) (ci := 0) (v := .ref (b2)) hx hb hG inX0 hown hK hP 0 rfl rfl 1 (by decide) (hG _ kw26) (fun _ h9 => h9) rfl dX0_moveToFront_92 ?_
  refine lv_iconst (v := 0) hx hb dX0_moveToFront_95 (by decide) ?_
  refine lv_lload_n hx hb dX0_moveToFront_96 rfl (lv_at hl 2 rfl) ?_
  refine sl (D := D) (j := 0) (f := (vp_updL (vp_updL (vp_updL x.2.1 3 (x.2.1 2)) 2 ((vp_updL x.2.1 3 (x.2.1 2)) 1)) 1 ((vp_updL (vp_updL x.2.1 3 (x.2.1 2)) 2 ((vp_updL x.2.1 3 (x.2.1 2)) 1)) 0))) (x := (x.2.1 3)) (W' := (wC cI cJ b0 b1 b2 b3 ((upd (upd (upd (upd x.1 3 (x.1 2)) 2 ((upd x.1 3 (x.1 2)) 1)) 1 ((upd (upd x.1 3 (x.1 2)) 2 ((upd x.1 3 (x.1 2)) 1)) 0)) 0 (x.1 3)), (vp_updL (vp_updL (vp_updL (vp_updL x.2.1 3 (x.2.1 2)) 2 ((vp_updL x.2.1 3 (x.2.1 2)) 1)) 1 ((vp_updL (vp_updL x.2.1 3 (x.2.1 2)) 2 ((vp_updL x.2.1 3 (x.2.1 2)) 1)) 0)) 0 (x.2.1 3)), (vp_updL (vp_updL (vp_updL x.2.2.1 3 (x.2.2.1 2)) 2 ((vp_updL x.2.2.1 3 (x.2.2.1 2)) 1)) 1 ((vp_updL (vp_updL x.2.2.1 3 (x.2.2.1 2)) 2 ((vp_updL x.2.2.1 3 (x.2.2.1 2)) 1)) 0)), x.2.2.2))) hx hb hK hP hD hS 2 1 rfl rfl (inL (by decide)) (by decide) dX0_moveToFront_97 rfl (fun H locs hP hD hS => ?_)
  refine lv_aload_n hx hb dX0_moveToFront_98 rfl (lv_at hl 4 rfl) ?_
  refine va_get (D := D) (ci := 0) (v := .ref (b3)) hx hb hG inX0 hown hK hP 0 rfl rfl 2 (by decide) (hG _ kw27) (fun _ h9 => h9) rfl dX0_moveToFront_99 ?_
  refine lv_iconst (v := 0) hx hb dX0_moveToFront_102 (by decide) ?_
  refine lv_lload hx hb dX0_moveToFront_103 (lv_at hl 1 rfl) ?_
  refine sl (D := D) (j := 0) (f := (vp_updL (vp_updL (vp_updL x.2.2.1 3 (x.2.2.1 2)) 2 ((vp_updL x.2.2.1 3 (x.2.2.1 2)) 1)) 1 ((vp_updL (vp_updL x.2.2.1 3 (x.2.2.1 2)) 2 ((vp_updL x.2.2.1 3 (x.2.2.1 2)) 1)) 0))) (x := (x.2.2.1 3)) (W' := (wC cI cJ b0 b1 b2 b3 ((upd (upd (upd (upd x.1 3 (x.1 2)) 2 ((upd x.1 3 (x.1 2)) 1)) 1 ((upd (upd x.1 3 (x.1 2)) 2 ((upd x.1 3 (x.1 2)) 1)) 0)) 0 (x.1 3)), (vp_updL (vp_updL (vp_updL (vp_updL x.2.1 3 (x.2.1 2)) 2 ((vp_updL x.2.1 3 (x.2.1 2)) 1)) 1 ((vp_updL (vp_updL x.2.1 3 (x.2.1 2)) 2 ((vp_updL x.2.1 3 (x.2.1 2)) 1)) 0)) 0 (x.2.1 3)), (vp_updL (vp_updL (vp_updL (vp_updL x.2.2.1 3 (x.2.2.1 2)) 2 ((vp_updL x.2.2.1 3 (x.2.2.1 2)) 1)) 1 ((vp_updL (vp_updL x.2.2.1 3 (x.2.2.1 2)) 2 ((vp_updL x.2.2.1 3 (x.2.2.1 2)) 1)) 0)) 0 (x.2.2.1 3)), x.2.2.2))) hx hb hK hP hD hS 3 1 rfl rfl (inL (by decide)) (by decide) dX0_moveToFront_105 rfl (fun H locs hP hD hS => ?_)
  exact retv (u := ((upd (upd (upd (upd x.1 3 (x.1 2)) 2 ((upd x.1 3 (x.1 2)) 1)) 1 ((upd (upd x.1 3 (x.1 2)) 2 ((upd x.1 3 (x.1 2)) 1)) 0)) 0 (x.1 3)), (vp_updL (vp_updL (vp_updL (vp_updL x.2.1 3 (x.2.1 2)) 2 ((vp_updL x.2.1 3 (x.2.1 2)) 1)) 1 ((vp_updL (vp_updL x.2.1 3 (x.2.1 2)) 2 ((vp_updL x.2.1 3 (x.2.1 2)) 1)) 0)) 0 (x.2.1 3)), (vp_updL (vp_updL (vp_updL (vp_updL x.2.2.1 3 (x.2.2.1 2)) 2 ((vp_updL x.2.2.1 3 (x.2.2.1 2)) 1)) 1 ((vp_updL (vp_updL x.2.2.1 3 (x.2.2.1 2)) 2 ((vp_updL x.2.2.1 3 (x.2.2.1 2)) 1)) 0)) 0 (x.2.2.1 3)), x.2.2.2)) hx hb hr hlocks hK hP hD hS dX0_moveToFront_106 (by unfold fnX0_moveToFront; (try dsimp only); rw [if_neg h1]; rw [if_neg h2]; rw [if_neg h3]; (try exact rfl))
