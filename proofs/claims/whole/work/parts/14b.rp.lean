abbrev ivX4_followChainP (z : Int32 × TR) : Prop := i4 z.1 ∧ iR z.2
def lpX4_followChain  : Nat → Int32 → TR → Int32 × TR
  | 0, k, u0 => ((6 : Int32), u0)
  | n + 1, k, u0 =>
    if (5 : Int32) ≤ k then
     ((6 : Int32), u0)
    else
     let p2 := fnX3_read u0.2.2.2.2.2.2.2 u0.2.2.2.2.2.1 (0 : Int32)
     if (0 : Int64) ≤ p2.1 then
      let p4 := fnX4_followWord (u0.1, u0.2.1, u0.2.2.1, u0.2.2.2.1, u0.2.2.2.2.1, (u0.2.2.2.2.2.1.1, u0.2.2.2.2.2.1.2.1, (if u0.2.2.2.2.2.1.2.2 < p2.2.2.2.2.2.2.2.2.1 then p2.2.2.2.2.2.2.2.2.1 else u0.2.2.2.2.2.1.2.2)), u0.2.2.2.2.2.2.1, p2.2) p2.1
      if p4.1 = (0 : Int32) then
       ((6 : Int32), p4.2)
      else
       if (p2.1 &&& (1048576 : Int64)) = (0 : Int64) then
        ((0 : Int32), p4.2)
       else
        lpX4_followChain  n (k + (1 : Int32)) p4.2
     else
      let p7 := fnX4_faultOf p2.1
      (p7, (u0.1, u0.2.1, u0.2.2.1, u0.2.2.2.1, u0.2.2.2.2.1, u0.2.2.2.2.2.1, u0.2.2.2.2.2.2.1, p2.2))
theorem lpX4_followChain_s  (n : Nat) (k : Int32) (u0 : TR) : lpX4_followChain  (n + 1) k u0 =
    (if (5 : Int32) ≤ k then
     ((6 : Int32), u0)
    else
     let p2 := fnX3_read u0.2.2.2.2.2.2.2 u0.2.2.2.2.2.1 (0 : Int32)
     if (0 : Int64) ≤ p2.1 then
      let p4 := fnX4_followWord (u0.1, u0.2.1, u0.2.2.1, u0.2.2.2.1, u0.2.2.2.2.1, (u0.2.2.2.2.2.1.1, u0.2.2.2.2.2.1.2.1, (if u0.2.2.2.2.2.1.2.2 < p2.2.2.2.2.2.2.2.2.1 then p2.2.2.2.2.2.2.2.2.1 else u0.2.2.2.2.2.1.2.2)), u0.2.2.2.2.2.2.1, p2.2) p2.1
      if p4.1 = (0 : Int32) then
       ((6 : Int32), p4.2)
      else
       if (p2.1 &&& (1048576 : Int64)) = (0 : Int64) then
        ((0 : Int32), p4.2)
       else
        lpX4_followChain  n (k + (1 : Int32)) p4.2
     else
      let p7 := fnX4_faultOf p2.1
      (p7, (u0.1, u0.2.1, u0.2.2.1, u0.2.2.2.1, u0.2.2.2.2.1, u0.2.2.2.2.2.1, u0.2.2.2.2.2.2.1, p2.2))) := rfl
set_option maxRecDepth 100000 in
set_option maxHeartbeats 4000000 in
theorem ivlpX4_followChain   : ∀ (n : Nat) (k : Int32) (u0 : TR), iR u0 → ivX4_followChainP (lpX4_followChain  n k u0) := by
  intro n
  induction n with
  | zero => intro k u0 hI; exact ⟨(show i4 (6 : Int32) from by decide), hI⟩
  | succ n ih =>
    intro k u0 hI
    rw [lpX4_followChain_s]
    try dsimp only
    refine iteI (fun h1 => ?_) (fun h1 => ?_)
    · exact ⟨(show i4 (6 : Int32) from by decide), hI⟩
    · have j2 : ivX3_readP (fnX3_read u0.2.2.2.2.2.2.2 u0.2.2.2.2.2.1 (0 : Int32)) := ivX3_read u0.2.2.2.2.2.2.2 u0.2.2.2.2.2.1 (0 : Int32) hI.2.2.2.2.2.2.2 hI.2.2.2.2.2.1
      generalize fnX3_read u0.2.2.2.2.2.2.2 u0.2.2.2.2.2.1 (0 : Int32) = p2 at j2 ⊢
      refine iteI (fun h3 => ?_) (fun h3 => ?_)
      · have j4 : ivX4_followWordP (fnX4_followWord (u0.1, u0.2.1, u0.2.2.1, u0.2.2.2.1, u0.2.2.2.2.1, (u0.2.2.2.2.2.1.1, u0.2.2.2.2.2.1.2.1, (if u0.2.2.2.2.2.1.2.2 < p2.2.2.2.2.2.2.2.2.1 then p2.2.2.2.2.2.2.2.2.1 else u0.2.2.2.2.2.1.2.2)), u0.2.2.2.2.2.2.1, p2.2) p2.1) := ivX4_followWord (u0.1, u0.2.1, u0.2.2.1, u0.2.2.2.1, u0.2.2.2.2.1, (u0.2.2.2.2.2.1.1, u0.2.2.2.2.2.1.2.1, (if u0.2.2.2.2.2.1.2.2 < p2.2.2.2.2.2.2.2.2.1 then p2.2.2.2.2.2.2.2.2.1 else u0.2.2.2.2.2.1.2.2)), u0.2.2.2.2.2.2.1, p2.2) p2.1 ⟨hI.1, hI.2.1, hI.2.2.1, hI.2.2.2.1, hI.2.2.2.2.1, ⟨hI.2.2.2.2.2.1.1, hI.2.2.2.2.2.1.2.1, (mx3 hI.2.2.2.2.2.1.2.2 j2.2.2.2.2.1)⟩, hI.2.2.2.2.2.2.1, j2.2⟩
        generalize fnX4_followWord (u0.1, u0.2.1, u0.2.2.1, u0.2.2.2.1, u0.2.2.2.2.1, (u0.2.2.2.2.2.1.1, u0.2.2.2.2.2.1.2.1, (if u0.2.2.2.2.2.1.2.2 < p2.2.2.2.2.2.2.2.2.1 then p2.2.2.2.2.2.2.2.2.1 else u0.2.2.2.2.2.1.2.2)), u0.2.2.2.2.2.2.1, p2.2) p2.1 = p4 at j4 ⊢
        refine iteI (fun h5 => ?_) (fun h5 => ?_)
        · exact ⟨(show i4 (6 : Int32) from by decide), j4⟩
        · refine iteI (fun h6 => ?_) (fun h6 => ?_)
          · exact ⟨(show i4 (0 : Int32) from by decide), j4⟩
          · exact ih (k + (1 : Int32)) p4.2 j4
      · have j7 : i4 (fnX4_faultOf p2.1) := (fltI j2.1 (Int64.not_le.mp h3))
        generalize fnX4_faultOf p2.1 = p7 at j7 ⊢
        exact ⟨j7, ⟨hI.1, hI.2.1, hI.2.2.1, hI.2.2.2.1, hI.2.2.2.2.1, hI.2.2.2.2.2.1, hI.2.2.2.2.2.2.1, j2.2⟩⟩
def fnX4_followChain (x : TR)  : Int32 × TR :=
  lpX4_followChain  6 (0 : Int32) x
set_option maxRecDepth 100000 in
set_option maxHeartbeats 4000000 in
theorem ivX4_followChain (x : TR)  (hI : iR x) : ivX4_followChainP (fnX4_followChain x) := by
  unfold fnX4_followChain
  try dsimp only
  exact ivlpX4_followChain   6 (0 : Int32) x hI
set_option maxRecDepth 100000 in
set_option maxHeartbeats 4000000 in
theorem okX4_followChain (l : Launch) (D : va_G) (cI cJ cP : ClassId) (ad : Nat → Nat) (sz : Nat) (x : TR)  (hI : iR x) : Met l yX4_followChain (Cond.code yX4_followChain cX4_followChain 4 (some .int) :: gG) { frames := 4, cells := 0, slots := 0, locals := 105 } (va_Pc [.ref (ad 0)] (PRE D (tz cI cJ cP) sz (wR cI cJ cP ad x))) (va_Qi (fun (r : Int32) (u : TR) => (r, u) = fnX4_followChain x) (AT D (tz cI cJ cP) (va_A (wR cI cJ cP ad x) sz) (fun (u : TR) => (wR cI cJ cP ad u))) (va_A (wR cI cJ cP ad x) sz)) 0 0 (va_A (wR cI cJ cP ad x) sz) := by
  refine mo (QA := fun A => va_Qi (fun (r : Int32) (u : TR) => (r, u) = fnX4_followChain x) (AT D (tz cI cJ cP) A (fun (u : TR) => (wR cI cJ cP ad u))) A) (by decide) (Nat.le_of_ble_eq_true rfl) ?_
  intro p e s m below meth c A ls H hx hb hr hml hown hG hlocks hnm hA hS hP hK hD hl hN
  have hown : s.vm.findClass RX4 = some m.cls := hown
  have hl : lv_has ls 4 [(0, .ref (ad 0))] := hl
  refine lv_iconst (v := 0) hx hb dX4_followChain_0 (by decide) ?_
  refine lv_istore_n (lv' := [(1, .int ((0 : Int32))), (0, .ref (ad 0))]) hx hb dX4_followChain_1 rfl hl (by decide) rfl (fun ls hl => ?_)
  have loop2 : ∀ (n : Nat) (k : Int32) (u0 : TR) (H : Heap) (locs : List Loc) (ls : Array Slot), ((5 : Int32).toInt - k.toInt).toNat < n → iR u0 → 0 ≤ k.toInt → va_P D vwCl (wR cI cJ cP ad u0) H → va_D A (wR cI cJ cP ad u0) → va_S A s.heap H locs → lv_has ls 4 [(1, .int (k)), (0, .ref (ad 0))] → fnX4_followChain x = lpX4_followChain  n k u0 → W p l e { frames := 4, cells := 0, slots := 0, locals := 105 } s m ([.ref (ad 0)]).toArray below meth c H locs 0 0 (MQ below (va_Qi (fun (r : Int32) (u : TR) => (r, u) = fnX4_followChain x) (AT D (tz cI cJ cP) A (fun (u : TR) => (wR cI cJ cP ad u))) A) ([.ref (ad 0)]).toArray s 0 0 A) (F0 m 2 ls []) := by
    intro n
    induction n with
    | zero => intro k u0 H locs ls hn; exact absurd hn (Nat.not_lt_zero _)
    | succ n ih =>
      intro k u0 H locs ls hn hI hk hP hD hS hl hE
      refine lv_iload_n hx hb dX4_followChain_2 rfl (lv_at hl 0 rfl) ?_
      refine lv_iconst (v := 5) hx hb dX4_followChain_3 (by decide) ?_
      refine lv_icmp_ge (tgt := 87) hx hb dX4_followChain_4 (by decide) (fun h1 => ?_) (fun h1 => ?_)
      · refine lv_bipush (v := 6) hx hb dX4_followChain_87 (by decide) ?_
        exact reti (u := u0) hx hb hr hlocks hK hP hD hS dX4_followChain_89 (by rw [hE, lpX4_followChain_s]; (try dsimp only); rw [if_pos h1]; (try exact rfl))
      · refine lv_aload_n hx hb dX4_followChain_7 rfl (lv_at hl 1 rfl) ?_
        refine va_get (D := D) (ci := 4) (v := .ref (ad 1)) hx hb hG inX4 hown hK hP 0 rfl rfl 0 (by decide) (hG _ kw104) (fun _ h9 => h9) rfl dX4_followChain_8 ?_
        refine lv_aload_n hx hb dX4_followChain_11 rfl (lv_at hl 1 rfl) ?_
        refine va_get (D := D) (ci := 4) (v := .ref (ad 12)) hx hb hG inX4 hown hK hP 0 rfl rfl 6 (by decide) (hG _ kw124) (fun _ h9 => h9) rfl dX4_followChain_12 ?_
        refine lv_iconst (v := 0) hx hb dX4_followChain_15 (by decide) ?_
        refine kVl (As := [.ref (ad 12), .int ((0 : Int32))]) (rest := []) (W' := (fun u2 => (wR cI cJ cP ad (u0.1, u0.2.1, u0.2.2.1, u0.2.2.2.1, u0.2.2.2.2.1, u0.2.2.2.2.2.1, u0.2.2.2.2.2.2.1, u2)))) hx hb hml hown hG hl (okX3_read l D cI cJ cP (fun i => ad (i + 1)) H.size u0.2.2.2.2.2.2.2 u0.2.2.2.2.2.1 (0 : Int32) hI.2.2.2.2.2.2.2 hI.2.2.2.2.2.1) (cV 2 hG kw125 kw126 kw127 kw128 kw60 hdX3_read ⟨by decide, by decide⟩) 1 3 rfl rfl hK hP hD hS hA hN [1, 2, 3, 4, 5, 6, 7, 8, 9, 10, 11, 12] rfl rfl rfl (fun _ => rfl) (fun _ => rfl) rfl rfl (Nat.le_of_ble_eq_true rfl) dX4_followChain_16 ⟨Nat.zero_le _, Nat.zero_le _⟩ (fun r2 u2 q2 H locs hP hD hS => ?_)
        have j2 : ivX3_readP (r2, u2) := by rw [q2]; exact ivX3_read u0.2.2.2.2.2.2.2 u0.2.2.2.2.2.1 (0 : Int32) hI.2.2.2.2.2.2.2 hI.2.2.2.2.2.1
        refine lv_lstore_n (lv' := [(2, .long (r2)), (1, .int (k)), (0, .ref (ad 0))]) hx hb dX4_followChain_19 rfl hl (by decide) rfl (fun ls hl => ?_)
        refine lv_lload_n hx hb dX4_followChain_20 rfl (lv_at hl 0 rfl) ?_
        refine lv_lconst (v := 0) hx hb dX4_followChain_21 (by decide) ?_
        refine lq_ge (tgt := 31) hx hb dX4_followChain_22 dX4_followChain_23 (by decide) (fun h3 => ?_) (fun h3 => ?_)
        · refine lv_aload_n hx hb dX4_followChain_31 rfl (lv_at hl 2 rfl) ?_
          refine va_get (D := D) (ci := 4) (v := .ref (ad 12)) hx hb hG inX4 hown hK hP 0 rfl rfl 6 (by decide) (hG _ kw124) (fun _ h9 => h9) rfl dX4_followChain_32 ?_
          refine lv_aload_n hx hb dX4_followChain_35 rfl (lv_at hl 2 rfl) ?_
          refine va_get (D := D) (ci := 4) (v := .ref (ad 12)) hx hb hG inX4 hown hK hP 0 rfl rfl 6 (by decide) (hG _ kw124) (fun _ h9 => h9) rfl dX4_followChain_36 ?_
          refine va_get (D := D) (ci := 2) (v := .int (u0.2.2.2.2.2.1.2.2)) hx hb hG inX2 hown hK hP 12 rfl rfl 2 (by decide) (hG _ kw119) (fun _ h9 => h9) rfl dX4_followChain_39 ?_
          refine lv_aload_n hx hb dX4_followChain_42 rfl (lv_at hl 2 rfl) ?_
          refine va_get (D := D) (ci := 4) (v := .ref (ad 1)) hx hb hG inX4 hown hK hP 0 rfl rfl 0 (by decide) (hG _ kw104) (fun _ h9 => h9) rfl dX4_followChain_43 ?_
          refine va_get (D := D) (ci := 3) (v := .ref (ad 11)) hx hb hG inX3 hown hK hP 1 rfl rfl 3 (by decide) (hG _ kw193) (fun _ h9 => h9) rfl dX4_followChain_46 ?_
          refine va_get (D := D) (ci := 1) (v := .int (u2.2.2.2.2.2.2.2.1)) hx hb hG inX1 hown hK hP 11 rfl rfl 4 (by decide) (hG _ kw194) (fun _ h9 => h9) rfl dX4_followChain_49 ?_
          refine va_mmax hx hb (hml.trans hl.1.symm) hown (hG _ kw150) (hG _ kw151) (hG _ kw152) (hG _ kw153) (by decide) (Nat.le_of_ble_eq_true rfl) (Nat.zero_le _) (Nat.zero_le _) dX4_followChain_52 ?_
          refine pu (D := D) (ci := 2) (v := .int ((if u0.2.2.2.2.2.1.2.2 < u2.2.2.2.2.2.2.2.1 then u2.2.2.2.2.2.2.2.1 else u0.2.2.2.2.2.1.2.2))) (ty := .int) (W' := (wR cI cJ cP ad (u0.1, u0.2.1, u0.2.2.1, u0.2.2.2.1, u0.2.2.2.2.1, (u0.2.2.2.2.2.1.1, u0.2.2.2.2.2.1.2.1, (if u0.2.2.2.2.2.1.2.2 < u2.2.2.2.2.2.2.2.1 then u2.2.2.2.2.2.2.2.1 else u0.2.2.2.2.2.1.2.2)), u0.2.2.2.2.2.2.1, u2))) hx hb hG inX2 tyX2 tyokX2 nmX2 hown hK hP hD hS 12 rfl rfl 2 (by decide) (hG _ kw119) (fun _ h9 => h9) rfl (by decide +kernel) rfl rfl (Nat.le_of_ble_eq_true rfl) dX4_followChain_55 rfl (fun H locs hP hD hS => ?_)
          refine lv_aload_n hx hb dX4_followChain_58 rfl (lv_at hl 2 rfl) ?_
          refine lv_lload_n hx hb dX4_followChain_59 rfl (lv_at hl 0 rfl) ?_
          refine kFi (As := [.long (r2)]) (rest := []) hx hb hml hown hG hl (okX4_followWord l D cI cJ cP ad H.size (u0.1, u0.2.1, u0.2.2.1, u0.2.2.2.1, u0.2.2.2.2.1, (u0.2.2.2.2.2.1.1, u0.2.2.2.2.2.1.2.1, (if u0.2.2.2.2.2.1.2.2 < u2.2.2.2.2.2.2.2.1 then u2.2.2.2.2.2.2.2.1 else u0.2.2.2.2.2.1.2.2)), u0.2.2.2.2.2.2.1, u2) r2 ⟨hI.1, hI.2.1, hI.2.2.1, hI.2.2.2.1, hI.2.2.2.2.1, ⟨hI.2.2.2.2.2.1.1, hI.2.2.2.2.2.1.2.1, (mx3 hI.2.2.2.2.2.1.2.2 j2.2.2.2.2.1)⟩, hI.2.2.2.2.2.2.1, j2.2⟩) (cV 1 hG kw195 kw196 kw197 kw198 kw5 hdX4_followWord ⟨by decide, by decide⟩) 0 4 rfl rfl hK hP hD hS hA hN rfl rfl (Nat.le_of_ble_eq_true rfl) dX4_followChain_60 ⟨Nat.zero_le _, Nat.zero_le _⟩ (fun r4 u4 q4 H locs hP hD hS => ?_)
          have j4 : ivX4_followWordP (r4, u4) := by rw [q4]; exact ivX4_followWord (u0.1, u0.2.1, u0.2.2.1, u0.2.2.2.1, u0.2.2.2.2.1, (u0.2.2.2.2.2.1.1, u0.2.2.2.2.2.1.2.1, (if u0.2.2.2.2.2.1.2.2 < u2.2.2.2.2.2.2.2.1 then u2.2.2.2.2.2.2.2.1 else u0.2.2.2.2.2.1.2.2)), u0.2.2.2.2.2.2.1, u2) r2 ⟨hI.1, hI.2.1, hI.2.2.1, hI.2.2.2.1, hI.2.2.2.2.1, ⟨hI.2.2.2.2.2.1.1, hI.2.2.2.2.2.1.2.1, (mx3 hI.2.2.2.2.2.1.2.2 j2.2.2.2.2.1)⟩, hI.2.2.2.2.2.2.1, j2.2⟩
          refine lv_if_ne (tgt := 69) hx hb dX4_followChain_63 (by decide) (fun h5 => ?_) (fun h5 => ?_)
          · refine lv_lload_n hx hb dX4_followChain_69 rfl (lv_at hl 0 rfl) ?_
            refine lv_ldc2 (v := 1048576) hx hb hown (hG _ kw199) dX4_followChain_70 ?_
            refine lv_land hx hb dX4_followChain_73 ?_
            refine lv_lconst (v := 0) hx hb dX4_followChain_74 (by decide) ?_
            refine lq_ne (tgt := 81) hx hb dX4_followChain_75 dX4_followChain_76 (by decide) (fun h6 => ?_) (fun h6 => ?_)
            · refine lv_iinc (k := 1) (v := (k + (1 : Int32))) (lv' := [(1, .int ((k + (1 : Int32)))), (2, .long (r2)), (0, .ref (ad 0))]) hx hb dX4_followChain_81 hl rfl (by rfl) (by decide) rfl (fun ls hl => ?_)
              refine lv_goto (tgt := 2) hx hb dX4_followChain_84 (by decide) ?_
              exact ih (k + (1 : Int32)) u4 _ _ _ (lpM (Int32.not_le.mp h1) hn) j4 (lpK (Int32.not_le.mp h1) hk) hP hD hS (lv_sub hl [0, 2] rfl) (by rw [hE, lpX4_followChain_s]; (try dsimp only); rw [if_neg h1]; rw [← q2]; (try dsimp only); rw [if_pos h3]; rw [← q4]; (try dsimp only); rw [if_neg h5]; rw [if_neg h6]; (try exact rfl))
            · refine lv_iconst (v := 0) hx hb dX4_followChain_79 (by decide) ?_
              exact reti (u := u4) hx hb hr hlocks hK hP hD hS dX4_followChain_80 (by rw [hE, lpX4_followChain_s]; (try dsimp only); rw [if_neg h1]; rw [← q2]; (try dsimp only); rw [if_pos h3]; rw [← q4]; (try dsimp only); rw [if_neg h5]; rw [if_pos h6]; (try exact rfl))
          · refine lv_bipush (v := 6) hx hb dX4_followChain_66 (by decide) ?_
            exact reti (u := u4) hx hb hr hlocks hK hP hD hS dX4_followChain_68 (by rw [hE, lpX4_followChain_s]; (try dsimp only); rw [if_neg h1]; rw [← q2]; (try dsimp only); rw [if_pos h3]; rw [← q4]; (try dsimp only); rw [if_pos h5]; (try exact rfl))
        · refine lv_lload_n hx hb dX4_followChain_26 rfl (lv_at hl 0 rfl) ?_
          refine k0Si (As := [.long (r2)]) (rest := []) hx hb hml hown hG hl (okX4_faultOf l D cI cJ cP  H.size r2 ) (cS 1 hG kw85 kw136 kw86 kw5 hdX4_faultOf ⟨by decide, by decide⟩) hK hP hD hS hA hN rfl rfl (Nat.le_of_ble_eq_true rfl) dX4_followChain_27 ⟨Nat.zero_le _, Nat.zero_le _⟩ (fun r7 q7 H locs hP hD hS => ?_)
          have j7 : i4 r7 := by rw [q7]; exact (fltI j2.1 (Int64.not_le.mp h3))
          exact reti (u := (u0.1, u0.2.1, u0.2.2.1, u0.2.2.2.1, u0.2.2.2.2.1, u0.2.2.2.2.2.1, u0.2.2.2.2.2.2.1, u2)) hx hb hr hlocks hK hP hD hS dX4_followChain_30 (by rw [hE, lpX4_followChain_s]; (try dsimp only); rw [if_neg h1]; rw [← q2]; (try dsimp only); rw [if_neg h3]; rw [← q7]; (try dsimp only); (try exact rfl))
  exact loop2 6 (0 : Int32) x _ _ _ (by decide) hI (by decide) hP hD hS (lv_sub hl [0, 1] rfl) (by unfold fnX4_followChain; (try dsimp only); (try exact rfl))
def fnX4_perform (x : TR)  : Int32 × TR :=
  let p1 := fnX2_become x.2.2.2.2.2.1 x.2.2.2.2.1
  let p2 := fnX3_read x.2.2.2.2.2.2.2 p1 (2 : Int32)
  if (0 : Int64) ≤ p2.1 then
   let p4 := fnX4_field p2.1 (30 : Int32) (6 : Int32)
   if p4 = (0 : Int32) then
    let p6 := fnX4_performWithoutAddress (x.1, x.2.1, x.2.2.1, x.2.2.2.1, x.2.2.2.2.1, p1, x.2.2.2.2.2.2.1, p2.2) p4
    (p6.1, p6.2)
   else
    if p4 = (33 : Int32) then
     let p8 := fnX4_performWithoutAddress (x.1, x.2.1, x.2.2.1, x.2.2.2.1, x.2.2.2.2.1, p1, x.2.2.2.2.2.2.1, p2.2) p4
     (p8.1, p8.2)
    else
     if p4 ≤ (35 : Int32) then
      let p10 := fnX4_startAddress (x.1, x.2.1, x.2.2.1, x.2.2.2.1, x.2.2.2.2.1, p1, x.2.2.2.2.2.2.1, p2.2) p2.1
      if (p2.1 &&& (67108864 : Int64)) = (0 : Int64) then
       let p12 := fnX4_performAtAddress p10 p4
       (p12.1, p12.2)
      else
       let p13 := fnX4_followChain p10
       if p13.1 = (0 : Int32) then
        let p15 := fnX4_performAtAddress p13.2 p4
        (p15.1, p15.2)
       else
        (p13.1, p13.2)
     else
      let p16 := fnX4_performWithoutAddress (x.1, x.2.1, x.2.2.1, x.2.2.2.1, x.2.2.2.2.1, p1, x.2.2.2.2.2.2.1, p2.2) p4
      (p16.1, p16.2)
  else
   let p17 := fnX4_faultOf p2.1
   (p17, (x.1, x.2.1, x.2.2.1, x.2.2.2.1, x.2.2.2.2.1, p1, x.2.2.2.2.2.2.1, p2.2))
abbrev ivX4_performP (z : Int32 × TR) : Prop := i4 z.1 ∧ iR z.2
set_option maxRecDepth 100000 in
set_option maxHeartbeats 4000000 in
theorem ivX4_perform (x : TR)  (hI : iR x) : ivX4_performP (fnX4_perform x) := by
  unfold fnX4_perform
  try dsimp only
  have j1 : ivX2_becomeP (fnX2_become x.2.2.2.2.2.1 x.2.2.2.2.1) := ivX2_become x.2.2.2.2.2.1 x.2.2.2.2.1 hI.2.2.2.2.2.1 hI.2.2.2.2.1
  generalize fnX2_become x.2.2.2.2.2.1 x.2.2.2.2.1 = p1 at j1 ⊢
  have j2 : ivX3_readP (fnX3_read x.2.2.2.2.2.2.2 p1 (2 : Int32)) := ivX3_read x.2.2.2.2.2.2.2 p1 (2 : Int32) hI.2.2.2.2.2.2.2 j1
  generalize fnX3_read x.2.2.2.2.2.2.2 p1 (2 : Int32) = p2 at j2 ⊢
  refine iteI (fun h3 => ?_) (fun h3 => ?_)
  · generalize fnX4_field p2.1 (30 : Int32) (6 : Int32) = p4
    refine iteI (fun h5 => ?_) (fun h5 => ?_)
    · have j6 : ivX4_performWithoutAddressP (fnX4_performWithoutAddress (x.1, x.2.1, x.2.2.1, x.2.2.2.1, x.2.2.2.2.1, p1, x.2.2.2.2.2.2.1, p2.2) p4) := ivX4_performWithoutAddress (x.1, x.2.1, x.2.2.1, x.2.2.2.1, x.2.2.2.2.1, p1, x.2.2.2.2.2.2.1, p2.2) p4 ⟨hI.1, hI.2.1, hI.2.2.1, hI.2.2.2.1, hI.2.2.2.2.1, j1, hI.2.2.2.2.2.2.1, j2.2⟩
      generalize fnX4_performWithoutAddress (x.1, x.2.1, x.2.2.1, x.2.2.2.1, x.2.2.2.2.1, p1, x.2.2.2.2.2.2.1, p2.2) p4 = p6 at j6 ⊢
      exact ⟨j6.1, j6.2⟩
    · refine iteI (fun h7 => ?_) (fun h7 => ?_)
      · have j8 : ivX4_performWithoutAddressP (fnX4_performWithoutAddress (x.1, x.2.1, x.2.2.1, x.2.2.2.1, x.2.2.2.2.1, p1, x.2.2.2.2.2.2.1, p2.2) p4) := ivX4_performWithoutAddress (x.1, x.2.1, x.2.2.1, x.2.2.2.1, x.2.2.2.2.1, p1, x.2.2.2.2.2.2.1, p2.2) p4 ⟨hI.1, hI.2.1, hI.2.2.1, hI.2.2.2.1, hI.2.2.2.2.1, j1, hI.2.2.2.2.2.2.1, j2.2⟩
        generalize fnX4_performWithoutAddress (x.1, x.2.1, x.2.2.1, x.2.2.2.1, x.2.2.2.2.1, p1, x.2.2.2.2.2.2.1, p2.2) p4 = p8 at j8 ⊢
        exact ⟨j8.1, j8.2⟩
      · refine iteI (fun h9 => ?_) (fun h9 => ?_)
        · have j10 : ivX4_startAddressP (fnX4_startAddress (x.1, x.2.1, x.2.2.1, x.2.2.2.1, x.2.2.2.2.1, p1, x.2.2.2.2.2.2.1, p2.2) p2.1) := ivX4_startAddress (x.1, x.2.1, x.2.2.1, x.2.2.2.1, x.2.2.2.2.1, p1, x.2.2.2.2.2.2.1, p2.2) p2.1 ⟨hI.1, hI.2.1, hI.2.2.1, hI.2.2.2.1, hI.2.2.2.2.1, j1, hI.2.2.2.2.2.2.1, j2.2⟩
          generalize fnX4_startAddress (x.1, x.2.1, x.2.2.1, x.2.2.2.1, x.2.2.2.2.1, p1, x.2.2.2.2.2.2.1, p2.2) p2.1 = p10 at j10 ⊢
          refine iteI (fun h11 => ?_) (fun h11 => ?_)
          · have j12 : ivX4_performAtAddressP (fnX4_performAtAddress p10 p4) := ivX4_performAtAddress p10 p4 j10
            generalize fnX4_performAtAddress p10 p4 = p12 at j12 ⊢
            exact ⟨j12.1, j12.2⟩
          · have j13 : ivX4_followChainP (fnX4_followChain p10) := ivX4_followChain p10 j10
            generalize fnX4_followChain p10 = p13 at j13 ⊢
            refine iteI (fun h14 => ?_) (fun h14 => ?_)
            · have j15 : ivX4_performAtAddressP (fnX4_performAtAddress p13.2 p4) := ivX4_performAtAddress p13.2 p4 j13.2
              generalize fnX4_performAtAddress p13.2 p4 = p15 at j15 ⊢
              exact ⟨j15.1, j15.2⟩
            · exact ⟨j13.1, j13.2⟩
        · have j16 : ivX4_performWithoutAddressP (fnX4_performWithoutAddress (x.1, x.2.1, x.2.2.1, x.2.2.2.1, x.2.2.2.2.1, p1, x.2.2.2.2.2.2.1, p2.2) p4) := ivX4_performWithoutAddress (x.1, x.2.1, x.2.2.1, x.2.2.2.1, x.2.2.2.2.1, p1, x.2.2.2.2.2.2.1, p2.2) p4 ⟨hI.1, hI.2.1, hI.2.2.1, hI.2.2.2.1, hI.2.2.2.2.1, j1, hI.2.2.2.2.2.2.1, j2.2⟩
          generalize fnX4_performWithoutAddress (x.1, x.2.1, x.2.2.1, x.2.2.2.1, x.2.2.2.2.1, p1, x.2.2.2.2.2.2.1, p2.2) p4 = p16 at j16 ⊢
          exact ⟨j16.1, j16.2⟩
  · have j17 : i4 (fnX4_faultOf p2.1) := (fltI j2.1 (Int64.not_le.mp h3))
    generalize fnX4_faultOf p2.1 = p17 at j17 ⊢
    exact ⟨j17, ⟨hI.1, hI.2.1, hI.2.2.1, hI.2.2.2.1, hI.2.2.2.2.1, j1, hI.2.2.2.2.2.2.1, j2.2⟩⟩
set_option maxRecDepth 100000 in
set_option maxHeartbeats 4000000 in
theorem okX4_perform (l : Launch) (D : va_G) (cI cJ cP : ClassId) (ad : Nat → Nat) (sz : Nat) (x : TR)  (hI : iR x) : Met l yX4_perform (Cond.code yX4_perform cX4_perform 5 (some .int) :: gG) { frames := 6, cells := 0, slots := 0, locals := 151 } (va_Pc [.ref (ad 0)] (PRE D (tz cI cJ cP) sz (wR cI cJ cP ad x))) (va_Qi (fun (r : Int32) (u : TR) => (r, u) = fnX4_perform x) (AT D (tz cI cJ cP) (va_A (wR cI cJ cP ad x) sz) (fun (u : TR) => (wR cI cJ cP ad u))) (va_A (wR cI cJ cP ad x) sz)) 0 0 (va_A (wR cI cJ cP ad x) sz) := by
  refine mo (QA := fun A => va_Qi (fun (r : Int32) (u : TR) => (r, u) = fnX4_perform x) (AT D (tz cI cJ cP) A (fun (u : TR) => (wR cI cJ cP ad u))) A) (by decide) (Nat.le_of_ble_eq_true rfl) ?_
  intro p e s m below meth c A ls H hx hb hr hml hown hG hlocks hnm hA hS hP hK hD hl hN
  have hown : s.vm.findClass RX4 = some m.cls := hown
  have hl : lv_has ls 5 [(0, .ref (ad 0))] := hl
  refine lv_aload_n hx hb dX4_perform_0 rfl (lv_at hl 0 rfl) ?_
  refine va_get (D := D) (ci := 4) (v := .ref (ad 12)) hx hb hG inX4 hown hK hP 0 rfl rfl 6 (by decide) (hG _ kw124) (fun _ h9 => h9) rfl dX4_perform_1 ?_
  refine lv_aload_n hx hb dX4_perform_4 rfl (lv_at hl 0 rfl) ?_
  refine va_get (D := D) (ci := 4) (v := .ref (ad 19)) hx hb hG inX4 hown hK hP 0 rfl rfl 5 (by decide) (hG _ kw87) (fun _ h9 => h9) rfl dX4_perform_5 ?_
  refine kVv (As := [.ref (ad 19)]) (rest := []) (W' := (fun u1 => (wR cI cJ cP ad (x.1, x.2.1, x.2.2.1, x.2.2.2.1, x.2.2.2.2.1, u1, x.2.2.2.2.2.2.1, x.2.2.2.2.2.2.2)))) hx hb hml hown hG hl (okX2_become l D cI cJ cP (ad 12) (ad 19) H.size x.2.2.2.2.2.1 x.2.2.2.2.1 hI.2.2.2.2.2.1 hI.2.2.2.2.1) (cV 1 hG kw98 kw100 kw101 kw102 kw99 hdX2_become ⟨by decide, by decide⟩) 12 2 rfl rfl hK hP hD hS hA hN [12, 19] rfl rfl rfl (fun _ => rfl) (fun _ => rfl) rfl rfl (Nat.le_of_ble_eq_true rfl) dX4_perform_8 ⟨Nat.zero_le _, Nat.zero_le _⟩ (fun u1 q1 H locs hP hD hS => ?_)
  have j1 : ivX2_becomeP u1 := by rw [q1]; exact ivX2_become x.2.2.2.2.2.1 x.2.2.2.2.1 hI.2.2.2.2.2.1 hI.2.2.2.2.1
  refine lv_aload_n hx hb dX4_perform_11 rfl (lv_at hl 0 rfl) ?_
  refine va_get (D := D) (ci := 4) (v := .ref (ad 1)) hx hb hG inX4 hown hK hP 0 rfl rfl 0 (by decide) (hG _ kw104) (fun _ h9 => h9) rfl dX4_perform_12 ?_
  refine lv_aload_n hx hb dX4_perform_15 rfl (lv_at hl 0 rfl) ?_
  refine va_get (D := D) (ci := 4) (v := .ref (ad 12)) hx hb hG inX4 hown hK hP 0 rfl rfl 6 (by decide) (hG _ kw124) (fun _ h9 => h9) rfl dX4_perform_16 ?_
  refine lv_iconst (v := 2) hx hb dX4_perform_19 (by decide) ?_
  refine kVl (As := [.ref (ad 12), .int ((2 : Int32))]) (rest := []) (W' := (fun u2 => (wR cI cJ cP ad (x.1, x.2.1, x.2.2.1, x.2.2.2.1, x.2.2.2.2.1, u1, x.2.2.2.2.2.2.1, u2)))) hx hb hml hown hG hl (okX3_read l D cI cJ cP (fun i => ad (i + 1)) H.size x.2.2.2.2.2.2.2 u1 (2 : Int32) hI.2.2.2.2.2.2.2 j1) (cV 2 hG kw125 kw126 kw127 kw128 kw60 hdX3_read ⟨by decide, by decide⟩) 1 3 rfl rfl hK hP hD hS hA hN [1, 2, 3, 4, 5, 6, 7, 8, 9, 10, 11, 12] rfl rfl rfl (fun _ => rfl) (fun _ => rfl) rfl rfl (Nat.le_of_ble_eq_true rfl) dX4_perform_20 ⟨Nat.zero_le _, Nat.zero_le _⟩ (fun r2 u2 q2 H locs hP hD hS => ?_)
  have j2 : ivX3_readP (r2, u2) := by rw [q2]; exact ivX3_read x.2.2.2.2.2.2.2 u1 (2 : Int32) hI.2.2.2.2.2.2.2 j1
  refine lv_lstore_n (lv' := [(1, .long (r2)), (0, .ref (ad 0))]) hx hb dX4_perform_23 rfl hl (by decide) rfl (fun ls hl => ?_)
  refine lv_lload_n hx hb dX4_perform_24 rfl (lv_at hl 0 rfl) ?_
  refine lv_lconst (v := 0) hx hb dX4_perform_25 (by decide) ?_
  refine lq_ge (tgt := 35) hx hb dX4_perform_26 dX4_perform_27 (by decide) (fun h3 => ?_) (fun h3 => ?_)
  · refine lv_lload_n hx hb dX4_perform_35 rfl (lv_at hl 0 rfl) ?_
    refine lv_bipush (v := 30) hx hb dX4_perform_36 (by decide) ?_
    refine lv_bipush (v := 6) hx hb dX4_perform_38 (by decide) ?_
    refine k0Si (As := [.long (r2), .int ((30 : Int32)), .int ((6 : Int32))]) (rest := []) hx hb hml hown hG hl (okX4_field l D cI cJ cP  H.size r2 (30 : Int32) (6 : Int32) ) (cS 3 hG kw4 kw135 kw6 kw5 hdX4_field ⟨by decide, by decide⟩) hK hP hD hS hA hN rfl rfl (Nat.le_of_ble_eq_true rfl) dX4_perform_40 ⟨Nat.zero_le _, Nat.zero_le _⟩ (fun r4 q4 H locs hP hD hS => ?_)
    refine lv_istore_n (lv' := [(3, .int (r4)), (1, .long (r2)), (0, .ref (ad 0))]) hx hb dX4_perform_43 rfl hl (by decide) rfl (fun ls hl => ?_)
    refine lv_iload_n hx hb dX4_perform_44 rfl (lv_at hl 0 rfl) ?_
    refine lv_if_eq (tgt := 60) hx hb dX4_perform_45 (by decide) (fun h5 => ?_) (fun h5 => ?_)
    · refine lv_aload_n hx hb dX4_perform_60 rfl (lv_at hl 2 rfl) ?_
      refine lv_iload_n hx hb dX4_perform_61 rfl (lv_at hl 0 rfl) ?_
      refine kFi (As := [.int (r4)]) (rest := []) hx hb hml hown hG hl (okX4_performWithoutAddress l D cI cJ cP ad H.size (x.1, x.2.1, x.2.2.1, x.2.2.2.1, x.2.2.2.2.1, u1, x.2.2.2.2.2.2.1, u2) r4 ⟨hI.1, hI.2.1, hI.2.2.1, hI.2.2.2.1, hI.2.2.2.2.1, j1, hI.2.2.2.2.2.2.1, j2.2⟩) (cV 1 hG kw200 kw201 kw202 kw203 kw5 hdX4_performWithoutAddress ⟨by decide, by decide⟩) 0 4 rfl rfl hK hP hD hS hA hN rfl rfl (Nat.le_of_ble_eq_true rfl) dX4_perform_62 ⟨Nat.zero_le _, Nat.zero_le _⟩ (fun r6 u6 q6 H locs hP hD hS => ?_)
      have j6 : ivX4_performWithoutAddressP (r6, u6) := by rw [q6]; exact ivX4_performWithoutAddress (x.1, x.2.1, x.2.2.1, x.2.2.2.1, x.2.2.2.2.1, u1, x.2.2.2.2.2.2.1, u2) r4 ⟨hI.1, hI.2.1, hI.2.2.1, hI.2.2.2.1, hI.2.2.2.2.1, j1, hI.2.2.2.2.2.2.1, j2.2⟩
      exact reti (u := u6) hx hb hr hlocks hK hP hD hS dX4_perform_65 (by unfold fnX4_perform; rw [← q1]; (try dsimp only); rw [← q2]; (try dsimp only); rw [if_pos h3]; rw [← q4]; (try dsimp only); rw [if_pos h5]; rw [← q6]; (try dsimp only); (try exact rfl))
    · refine lv_iload_n hx hb dX4_perform_48 rfl (lv_at hl 0 rfl) ?_
      refine lv_bipush (v := 33) hx hb dX4_perform_49 (by decide) ?_
      refine lv_icmp_eq (tgt := 60) hx hb dX4_perform_51 (by decide) (fun h7 => ?_) (fun h7 => ?_)
      · refine lv_aload_n hx hb dX4_perform_60 rfl (lv_at hl 2 rfl) ?_
        refine lv_iload_n hx hb dX4_perform_61 rfl (lv_at hl 0 rfl) ?_
        refine kFi (As := [.int (r4)]) (rest := []) hx hb hml hown hG hl (okX4_performWithoutAddress l D cI cJ cP ad H.size (x.1, x.2.1, x.2.2.1, x.2.2.2.1, x.2.2.2.2.1, u1, x.2.2.2.2.2.2.1, u2) r4 ⟨hI.1, hI.2.1, hI.2.2.1, hI.2.2.2.1, hI.2.2.2.2.1, j1, hI.2.2.2.2.2.2.1, j2.2⟩) (cV 1 hG kw200 kw201 kw202 kw203 kw5 hdX4_performWithoutAddress ⟨by decide, by decide⟩) 0 4 rfl rfl hK hP hD hS hA hN rfl rfl (Nat.le_of_ble_eq_true rfl) dX4_perform_62 ⟨Nat.zero_le _, Nat.zero_le _⟩ (fun r8 u8 q8 H locs hP hD hS => ?_)
        have j8 : ivX4_performWithoutAddressP (r8, u8) := by rw [q8]; exact ivX4_performWithoutAddress (x.1, x.2.1, x.2.2.1, x.2.2.2.1, x.2.2.2.2.1, u1, x.2.2.2.2.2.2.1, u2) r4 ⟨hI.1, hI.2.1, hI.2.2.1, hI.2.2.2.1, hI.2.2.2.2.1, j1, hI.2.2.2.2.2.2.1, j2.2⟩
        exact reti (u := u8) hx hb hr hlocks hK hP hD hS dX4_perform_65 (by unfold fnX4_perform; rw [← q1]; (try dsimp only); rw [← q2]; (try dsimp only); rw [if_pos h3]; rw [← q4]; (try dsimp only); rw [if_neg h5]; rw [if_pos h7]; rw [← q8]; (try dsimp only); (try exact rfl))
      · refine lv_iload_n hx hb dX4_perform_54 rfl (lv_at hl 0 rfl) ?_
        refine lv_bipush (v := 35) hx hb dX4_perform_55 (by decide) ?_
        refine lv_icmp_le (tgt := 66) hx hb dX4_perform_57 (by decide) (fun h9 => ?_) (fun h9 => ?_)
        · refine lv_aload_n hx hb dX4_perform_66 rfl (lv_at hl 2 rfl) ?_
          refine lv_lload_n hx hb dX4_perform_67 rfl (lv_at hl 1 rfl) ?_
          refine kFv (As := [.long (r2)]) (rest := []) hx hb hml hown hG hl (okX4_startAddress l D cI cJ cP ad H.size (x.1, x.2.1, x.2.2.1, x.2.2.2.1, x.2.2.2.2.1, u1, x.2.2.2.2.2.2.1, u2) r2 ⟨hI.1, hI.2.1, hI.2.2.1, hI.2.2.2.1, hI.2.2.2.2.1, j1, hI.2.2.2.2.2.2.1, j2.2⟩) (cV 1 hG kw204 kw205 kw206 kw207 kw5 hdX4_startAddress ⟨by decide, by decide⟩) 0 4 rfl rfl hK hP hD hS hA hN rfl rfl (Nat.le_of_ble_eq_true rfl) dX4_perform_68 ⟨Nat.zero_le _, Nat.zero_le _⟩ (fun u10 q10 H locs hP hD hS => ?_)
          have j10 : ivX4_startAddressP u10 := by rw [q10]; exact ivX4_startAddress (x.1, x.2.1, x.2.2.1, x.2.2.2.1, x.2.2.2.2.1, u1, x.2.2.2.2.2.2.1, u2) r2 ⟨hI.1, hI.2.1, hI.2.2.1, hI.2.2.2.1, hI.2.2.2.2.1, j1, hI.2.2.2.2.2.2.1, j2.2⟩
          refine lv_lload_n hx hb dX4_perform_71 rfl (lv_at hl 1 rfl) ?_
          refine lv_ldc2 (v := 67108864) hx hb hown (hG _ kw208) dX4_perform_72 ?_
          refine lv_land hx hb dX4_perform_75 ?_
          refine lv_lconst (v := 0) hx hb dX4_perform_76 (by decide) ?_
          refine lq_eq (tgt := 95) hx hb dX4_perform_77 dX4_perform_78 (by decide) (fun h11 => ?_) (fun h11 => ?_)
          · refine lv_aload_n hx hb dX4_perform_95 rfl (lv_at hl 2 rfl) ?_
            refine lv_iload_n hx hb dX4_perform_96 rfl (lv_at hl 0 rfl) ?_
            refine kFi (As := [.int (r4)]) (rest := []) hx hb hml hown hG hl (okX4_performAtAddress l D cI cJ cP ad H.size u10 r4 j10) (cV 1 hG kw209 kw210 kw211 kw212 kw5 hdX4_performAtAddress ⟨by decide, by decide⟩) 0 4 rfl rfl hK hP hD hS hA hN rfl rfl (Nat.le_of_ble_eq_true rfl) dX4_perform_97 ⟨Nat.zero_le _, Nat.zero_le _⟩ (fun r12 u12 q12 H locs hP hD hS => ?_)
            have j12 : ivX4_performAtAddressP (r12, u12) := by rw [q12]; exact ivX4_performAtAddress u10 r4 j10
            exact reti (u := u12) hx hb hr hlocks hK hP hD hS dX4_perform_100 (by unfold fnX4_perform; rw [← q1]; (try dsimp only); rw [← q2]; (try dsimp only); rw [if_pos h3]; rw [← q4]; (try dsimp only); rw [if_neg h5]; rw [if_neg h7]; rw [if_pos h9]; rw [← q10]; (try dsimp only); rw [if_pos h11]; rw [← q12]; (try dsimp only); (try exact rfl))
          · refine lv_aload_n hx hb dX4_perform_81 rfl (lv_at hl 2 rfl) ?_
            refine kFi (As := []) (rest := []) hx hb hml hown hG hl (okX4_followChain l D cI cJ cP ad H.size u10 j10) (cV 0 hG kw213 kw214 kw215 kw216 kw5 hdX4_followChain ⟨by decide, by decide⟩) 0 4 rfl rfl hK hP hD hS hA hN rfl rfl (Nat.le_of_ble_eq_true rfl) dX4_perform_82 ⟨Nat.zero_le _, Nat.zero_le _⟩ (fun r13 u13 q13 H locs hP hD hS => ?_)
            have j13 : ivX4_followChainP (r13, u13) := by rw [q13]; exact ivX4_followChain u10 j10
            refine lv_istore (lv' := [(4, .int (r13)), (3, .int (r4)), (1, .long (r2)), (0, .ref (ad 0))]) hx hb dX4_perform_85 hl (by decide) rfl (fun ls hl => ?_)
            refine lv_iload hx hb dX4_perform_87 (lv_at hl 0 rfl) ?_
            refine lv_if_eq (tgt := 95) hx hb dX4_perform_89 (by decide) (fun h14 => ?_) (fun h14 => ?_)
            · refine lv_aload_n hx hb dX4_perform_95 rfl (lv_at hl 3 rfl) ?_
              refine lv_iload_n hx hb dX4_perform_96 rfl (lv_at hl 1 rfl) ?_
              refine kFi (As := [.int (r4)]) (rest := []) hx hb hml hown hG hl (okX4_performAtAddress l D cI cJ cP ad H.size u13 r4 j13.2) (cV 1 hG kw209 kw210 kw211 kw212 kw5 hdX4_performAtAddress ⟨by decide, by decide⟩) 0 4 rfl rfl hK hP hD hS hA hN rfl rfl (Nat.le_of_ble_eq_true rfl) dX4_perform_97 ⟨Nat.zero_le _, Nat.zero_le _⟩ (fun r15 u15 q15 H locs hP hD hS => ?_)
              have j15 : ivX4_performAtAddressP (r15, u15) := by rw [q15]; exact ivX4_performAtAddress u13 r4 j13.2
              exact reti (u := u15) hx hb hr hlocks hK hP hD hS dX4_perform_100 (by unfold fnX4_perform; rw [← q1]; (try dsimp only); rw [← q2]; (try dsimp only); rw [if_pos h3]; rw [← q4]; (try dsimp only); rw [if_neg h5]; rw [if_neg h7]; rw [if_pos h9]; rw [← q10]; (try dsimp only); rw [if_neg h11]; rw [← q13]; (try dsimp only); rw [if_pos h14]; rw [← q15]; (try dsimp only); (try exact rfl))
            · refine lv_iload hx hb dX4_perform_92 (lv_at hl 0 rfl) ?_
              exact reti (u := u13) hx hb hr hlocks hK hP hD hS dX4_perform_94 (by unfold fnX4_perform; rw [← q1]; (try dsimp only); rw [← q2]; (try dsimp only); rw [if_pos h3]; rw [← q4]; (try dsimp only); rw [if_neg h5]; rw [if_neg h7]; rw [if_pos h9]; rw [← q10]; (try dsimp only); rw [if_neg h11]; rw [← q13]; (try dsimp only); rw [if_neg h14]; (try exact rfl))
        · refine lv_aload_n hx hb dX4_perform_60 rfl (lv_at hl 2 rfl) ?_
          refine lv_iload_n hx hb dX4_perform_61 rfl (lv_at hl 0 rfl) ?_
          refine kFi (As := [.int (r4)]) (rest := []) hx hb hml hown hG hl (okX4_performWithoutAddress l D cI cJ cP ad H.size (x.1, x.2.1, x.2.2.1, x.2.2.2.1, x.2.2.2.2.1, u1, x.2.2.2.2.2.2.1, u2) r4 ⟨hI.1, hI.2.1, hI.2.2.1, hI.2.2.2.1, hI.2.2.2.2.1, j1, hI.2.2.2.2.2.2.1, j2.2⟩) (cV 1 hG kw200 kw201 kw202 kw203 kw5 hdX4_performWithoutAddress ⟨by decide, by decide⟩) 0 4 rfl rfl hK hP hD hS hA hN rfl rfl (Nat.le_of_ble_eq_true rfl) dX4_perform_62 ⟨Nat.zero_le _, Nat.zero_le _⟩ (fun r16 u16 q16 H locs hP hD hS => ?_)
          have j16 : ivX4_performWithoutAddressP (r16, u16) := by rw [q16]; exact ivX4_performWithoutAddress (x.1, x.2.1, x.2.2.1, x.2.2.2.1, x.2.2.2.2.1, u1, x.2.2.2.2.2.2.1, u2) r4 ⟨hI.1, hI.2.1, hI.2.2.1, hI.2.2.2.1, hI.2.2.2.2.1, j1, hI.2.2.2.2.2.2.1, j2.2⟩
          exact reti (u := u16) hx hb hr hlocks hK hP hD hS dX4_perform_65 (by unfold fnX4_perform; rw [← q1]; (try dsimp only); rw [← q2]; (try dsimp only); rw [if_pos h3]; rw [← q4]; (try dsimp only); rw [if_neg h5]; rw [if_neg h7]; rw [if_neg h9]; rw [← q16]; (try dsimp only); (try exact rfl))
  · refine lv_lload_n hx hb dX4_perform_30 rfl (lv_at hl 0 rfl) ?_
    refine k0Si (As := [.long (r2)]) (rest := []) hx hb hml hown hG hl (okX4_faultOf l D cI cJ cP  H.size r2 ) (cS 1 hG kw85 kw136 kw86 kw5 hdX4_faultOf ⟨by decide, by decide⟩) hK hP hD hS hA hN rfl rfl (Nat.le_of_ble_eq_true rfl) dX4_perform_31 ⟨Nat.zero_le _, Nat.zero_le _⟩ (fun r17 q17 H locs hP hD hS => ?_)
    have j17 : i4 r17 := by rw [q17]; exact (fltI j2.1 (Int64.not_le.mp h3))
    exact reti (u := (x.1, x.2.1, x.2.2.1, x.2.2.2.1, x.2.2.2.2.1, u1, x.2.2.2.2.2.2.1, u2)) hx hb hr hlocks hK hP hD hS dX4_perform_34 (by unfold fnX4_perform; rw [← q1]; (try dsimp only); rw [← q2]; (try dsimp only); rw [if_neg h3]; rw [← q17]; (try dsimp only); (try exact rfl))
