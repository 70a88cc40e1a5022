def fnX5_place (x : TM) (a0 : Int32) (a1 : Int32) (a2 : Int32) (a3 : Int32) : Int32 × TM :=
  if x.2.2.2.2.2.2.2.2.2.2.2.1.1 ≤ (0 : Int32) then
   let p2 := fnX5_look x a0
   let p3 := fnX5_barred p2.2.2.2.2.2.2.2.2.2.2.2.2.2.1.1 p2.2.2.2.2.2.2.2.2.2.2.2.2.2.1.2 a1 a2 a3
   let p4 := fnX5_bits p2.2.2.2.2.2.2.2.2.2.2.2.2.2.1.1 (0 : Int32) (12 : Int32)
   if p3 = (0 : Int32) then
    if (p2.2.2.2.2.2.2.2.2.2.2.2.2.2.1.1 &&& (17179869184 : Int64)) = (0 : Int64) then
     (((p4 + a1) &&& (4095 : Int32)), p2)
    else
     let p8 := fnX5_lookPage p2 a0 (a1 / (64 : Int32)) ((p4 + (a1 / (64 : Int32))) &&& (4095 : Int32))
     if (p8.1 &&& (34359738368 : Int64)) = (0 : Int64) then
      let p11 := fnX5_wrong p8.2 (2 : Int32) a0 a1
      ((-1 : Int32), p11)
     else
      let p10 := fnX5_bits p8.1 (0 : Int32) (6 : Int32)
      ((((64 : Int32) * p10) + (a1 - a1 / (64 : Int32) * (64 : Int32))), p8.2)
   else
    let p6 := fnX5_wrong p2 p3 a0 a1
    ((-1 : Int32), p6)
  else
   ((-1 : Int32), x)
abbrev ivX5_placeP (z : Int32 × TM) : Prop := ipc z.1 ∧ iM z.2
set_option maxRecDepth 100000 in
set_option maxHeartbeats 4000000 in
theorem ivX5_place (x : TM) (a0 : Int32) (a1 : Int32) (a2 : Int32) (a3 : Int32) (hI : iM x) (g0 : i4 a0) (g1 : i12 a1) : ivX5_placeP (fnX5_place x a0 a1 a2 a3) := by
  unfold fnX5_place
  try dsimp only
  refine iteI (fun h1 => ?_) (fun h1 => ?_)
  · have j2 : ivX5_lookP (fnX5_look x a0) := ivX5_look x a0 hI g0
    generalize fnX5_look x a0 = p2 at j2 ⊢
    have j3 : i4 (fnX5_barred p2.2.2.2.2.2.2.2.2.2.2.2.2.2.1.1 p2.2.2.2.2.2.2.2.2.2.2.2.2.2.1.2 a1 a2 a3) := (ivX5_barred p2.2.2.2.2.2.2.2.2.2.2.2.2.2.1.1 p2.2.2.2.2.2.2.2.2.2.2.2.2.2.1.2 a1 a2 a3)
    generalize fnX5_barred p2.2.2.2.2.2.2.2.2.2.2.2.2.2.1.1 p2.2.2.2.2.2.2.2.2.2.2.2.2.2.1.2 a1 a2 a3 = p3 at j3 ⊢
    have j4 : i12 (fnX5_bits p2.2.2.2.2.2.2.2.2.2.2.2.2.2.1.1 (0 : Int32) (12 : Int32)) := (f12M p2.2.2.2.2.2.2.2.2.2.2.2.2.2.1.1 (0 : Int32))
    generalize fnX5_bits p2.2.2.2.2.2.2.2.2.2.2.2.2.2.1.1 (0 : Int32) (12 : Int32) = p4 at j4 ⊢
    refine iteI (fun h5 => ?_) (fun h5 => ?_)
    · refine iteI (fun h7 => ?_) (fun h7 => ?_)
      · exact ⟨(Or.inr (mk12 _)), j2⟩
      · have j8 : ivX5_lookPageP (fnX5_lookPage p2 a0 (a1 / (64 : Int32)) ((p4 + (a1 / (64 : Int32))) &&& (4095 : Int32))) := ivX5_lookPage p2 a0 (a1 / (64 : Int32)) ((p4 + (a1 / (64 : Int32))) &&& (4095 : Int32)) j2 (mk12 _)
        generalize fnX5_lookPage p2 a0 (a1 / (64 : Int32)) ((p4 + (a1 / (64 : Int32))) &&& (4095 : Int32)) = p8 at j8 ⊢
        refine iteI (fun h9 => ?_) (fun h9 => ?_)
        · have j11 : ivX5_wrongP (fnX5_wrong p8.2 (2 : Int32) a0 a1) := ivX5_wrong p8.2 (2 : Int32) a0 a1 j8 (show i4 (2 : Int32) from by decide)
          generalize fnX5_wrong p8.2 (2 : Int32) a0 a1 = p11 at j11 ⊢
          exact ⟨(Or.inl rfl), j11⟩
        · have j10 : i6 (fnX5_bits p8.1 (0 : Int32) (6 : Int32)) := (f6M p8.1 (0 : Int32))
          generalize fnX5_bits p8.1 (0 : Int32) (6 : Int32) = p10 at j10 ⊢
          exact ⟨(Or.inr (pgM j10 g1)), j8⟩
    · have j6 : ivX5_wrongP (fnX5_wrong p2 p3 a0 a1) := ivX5_wrong p2 p3 a0 a1 j2 j3
      generalize fnX5_wrong p2 p3 a0 a1 = p6 at j6 ⊢
      exact ⟨(Or.inl rfl), j6⟩
  · exact ⟨(Or.inl rfl), hI⟩
set_option maxRecDepth 100000 in
set_option maxHeartbeats 4000000 in
theorem okX5_place (l : Launch) (D : va_G) (cI cJ cP : ClassId) (ad : Nat → Nat) (sz : Nat) (x : TM) (a0 : Int32) (a1 : Int32) (a2 : Int32) (a3 : Int32) (hI : iM x) (g0 : i4 a0) (g1 : i12 a1) : Met l yX5_place (Cond.code yX5_place cX5_place 10 (some .int) :: gG) { frames := 2, cells := 0, slots := 0, locals := 52 } (va_Pc [.ref (ad 0), .int a0, .int a1, .int a2, .int a3] (PRE D (tz cI cJ cP) sz (wM cI cJ ad x))) (va_Qi (fun (r : Int32) (u : TM) => (r, u) = fnX5_place x a0 a1 a2 a3) (AT D (tz cI cJ cP) (va_A (wM cI cJ ad x) sz) (fun (u : TM) => (wM cI cJ ad u))) (va_A (wM cI cJ ad x) sz)) 0 0 (va_A (wM cI cJ ad x) sz) := by
  refine mo (QA := fun A => va_Qi (fun (r : Int32) (u : TM) => (r, u) = fnX5_place x a0 a1 a2 a3) (AT D (tz cI cJ cP) A (fun (u : TM) => (wM cI cJ ad u))) A) (by decide) (Nat.le_of_ble_eq_true rfl) ?_
  intro p e s m below meth c A ls H hx hb hr hml hown hG hlocks hnm hA hS hP hK hD hl hN
  have hown : s.vm.findClass RX5 = some m.cls := hown
  have hl : lv_has ls 10 [(0, .ref (ad 0)), (1, .int a0), (2, .int a1), (3, .int a2), (4, .int a3)] := hl
  refine lv_aload_n hx hb dX5_place_0 rfl (lv_at hl 0 rfl) ?_
  refine va_get (D := D) (ci := 5) (v := .int (x.2.2.2.2.2.2.2.2.2.2.2.1.1)) hx hb hG inX5 hown hK hP 0 rfl rfl 28 (by decide) (hG _ kw242) (fun _ h9 => h9) rfl dX5_place_1 ?_
  refine lv_if_le (tgt := 9) hx hb dX5_place_4 (by decide) (fun h1 => ?_) (fun h1 => ?_)
  · refine lv_aload_n hx hb dX5_place_9 rfl (lv_at hl 0 rfl) ?_
    refine lv_iload_n hx hb dX5_place_10 rfl (lv_at hl 1 rfl) ?_
    refine kFv (As := [.int (a0)]) (rest := []) hx hb hml hown hG hl (okX5_look l D cI cJ cP ad H.size x a0 hI g0) (cV 1 hG kw270 kw271 kw272 kw273 kw238 hdX5_look ⟨by decide, by decide⟩) 0 5 rfl rfl hK hP hD hS hA hN rfl rfl (Nat.le_of_ble_eq_true rfl) dX5_place_11 ⟨Nat.zero_le _, Nat.zero_le _⟩ (fun u2 q2 H locs hP hD hS => ?_)
    have j2 : ivX5_lookP u2 := by rw [q2]; exact ivX5_look x a0 hI g0
    refine lv_aload_n hx hb dX5_place_14 rfl (lv_at hl 0 rfl) ?_
    refine va_get (D := D) (ci := 5) (v := .long (u2.2.2.2.2.2.2.2.2.2.2.2.2.2.1.1)) hx hb hG inX5 hown hK hP 0 rfl rfl 34 (by decide) (hG _ kw260) (fun _ h9 => h9) rfl dX5_place_15 ?_
    refine lv_aload_n hx hb dX5_place_18 rfl (lv_at hl 0 rfl) ?_
    refine va_get (D := D) (ci := 5) (v := .long (u2.2.2.2.2.2.2.2.2.2.2.2.2.2.1.2)) hx hb hG inX5 hown hK hP 0 rfl rfl 35 (by decide) (hG _ kw262) (fun _ h9 => h9) rfl dX5_place_19 ?_
    refine lv_iload_n hx hb dX5_place_22 rfl (lv_at hl 2 rfl) ?_
    refine lv_iload_n hx hb dX5_place_23 rfl (lv_at hl 3 rfl) ?_
    refine lv_iload hx hb dX5_place_24 (lv_at hl 4 rfl) ?_
    refine k0Si (As := [.long (u2.2.2.2.2.2.2.2.2.2.2.2.2.2.1.1), .long (u2.2.2.2.2.2.2.2.2.2.2.2.2.2.1.2), .int (a1), .int (a2), .int (a3)]) (rest := []) hx hb hml hown hG hl (okX5_barred l D cI cJ cP  H.size u2.2.2.2.2.2.2.2.2.2.2.2.2.2.1.1 u2.2.2.2.2.2.2.2.2.2.2.2.2.2.1.2 a1 a2 a3 ) (cS 5 hG kw274 kw275 kw276 kw238 hdX5_barred ⟨by decide, by decide⟩) hK hP hD hS hA hN rfl rfl (Nat.le_of_ble_eq_true rfl) dX5_place_26 ⟨Nat.zero_le _, Nat.zero_le _⟩ (fun r3 q3 H locs hP hD hS => ?_)
    have j3 : i4 r3 := by rw [q3]; exact (ivX5_barred u2.2.2.2.2.2.2.2.2.2.2.2.2.2.1.1 u2.2.2.2.2.2.2.2.2.2.2.2.2.2.1.2 a1 a2 a3)
    refine lv_istore (lv' := [(5, .int (r3)), (0, .ref (ad 0)), (1, .int (a0)), (2, .int (a1)), (3, .int (a2)), (4, .int (a3))]) hx hb dX5_place_29 hl (by decide) rfl (fun ls hl => ?_)
    refine lv_aload_n hx hb dX5_place_31 rfl (lv_at hl 1 rfl) ?_
    refine va_get (D := D) (ci := 5) (v := .long (u2.2.2.2.2.2.2.2.2.2.2.2.2.2.1.1)) hx hb hG inX5 hown hK hP 0 rfl rfl 34 (by decide) (hG _ kw260) (fun _ h9 => h9) rfl dX5_place_32 ?_
    refine lv_iconst (v := 0) hx hb dX5_place_35 (by decide) ?_
    refine lv_bipush (v := 12) hx hb dX5_place_36 (by decide) ?_
    refine k0Si (As := [.long (u2.2.2.2.2.2.2.2.2.2.2.2.2.2.1.1), .int ((0 : Int32)), .int ((12 : Int32))]) (rest := []) hx hb hml hown hG hl (okX5_bits l D cI cJ cP  H.size u2.2.2.2.2.2.2.2.2.2.2.2.2.2.1.1 (0 : Int32) (12 : Int32) ) (cS 3 hG kw237 kw239 kw240 kw238 hdX5_bits ⟨by decide, by decide⟩) hK hP hD hS hA hN rfl rfl (Nat.le_of_ble_eq_true rfl) dX5_place_38 ⟨Nat.zero_le _, Nat.zero_le _⟩ (fun r4 q4 H locs hP hD hS => ?_)
    have j4 : i12 r4 := by rw [q4]; exact (f12M u2.2.2.2.2.2.2.2.2.2.2.2.2.2.1.1 (0 : Int32))
    refine lv_istore (lv' := [(6, .int (r4)), (5, .int (r3)), (0, .ref (ad 0)), (1, .int (a0)), (2, .int (a1)), (3, .int (a2)), (4, .int (a3))]) hx hb dX5_place_41 hl (by decide) rfl (fun ls hl => ?_)
    refine lv_iload hx hb dX5_place_43 (lv_at hl 1 rfl) ?_
    refine lv_if_ne (tgt := 70) hx hb dX5_place_45 (by decide) (fun h5 => ?_) (fun h5 => ?_)
    · refine lv_iload hx hb dX5_place_70 (lv_at hl 0 rfl) ?_
      refine lv_iload_n hx hb dX5_place_72 rfl (lv_at hl 4 rfl) ?_
      refine lv_bipush (v := 64) hx hb dX5_place_73 (by decide) ?_
      refine lv_idiv hx hb dX5_place_75 (by decide) ?_
      refine lv_iadd hx hb dX5_place_76 ?_
      refine lv_sipush (v := 4095) hx hb dX5_place_77 (by decide) ?_
      refine lv_iand hx hb dX5_place_80 ?_
      refine lv_istore (lv' := [(7, .int (((r4 + (a1 / (64 : Int32))) &&& (4095 : Int32)))), (6, .int (r4)), (5, .int (r3)), (0, .ref (ad 0)), (1, .int (a0)), (2, .int (a1)), (3, .int (a2)), (4, .int (a3))]) hx hb dX5_place_81 hl (by decide) rfl (fun ls hl => ?_)
      refine lv_iload hx hb dX5_place_83 (lv_at hl 2 rfl) ?_
      refine lv_if_ne (tgt := 102) hx hb dX5_place_85 (by decide) (fun _ => ?_) (fun h9 => absurd h9 h5)
      refine lv_lconst (v := 0) hx hb dX5_place_102 (by decide) ?_
      refine lv_lstore (lv' := [(8, .long ((0 : Int64))), (7, .int (((r4 + (a1 / (64 : Int32))) &&& (4095 : Int32)))), (6, .int (r4)), (5, .int (r3)), (0, .ref (ad 0)), (1, .int (a0)), (2, .int (a1)), (3, .int (a2)), (4, .int (a3))]) hx hb dX5_place_103 hl (by decide) rfl (fun ls hl => ?_)
      refine lv_iload hx hb dX5_place_105 (lv_at hl 3 rfl) ?_
      refine lv_if_ne (tgt := 124) hx hb dX5_place_107 (by decide) (fun _ => ?_) (fun h9 => absurd h9 h5)
      refine lv_iload hx hb dX5_place_124 (lv_at hl 3 rfl) ?_
      refine lv_if_ne (tgt := 146) hx hb dX5_place_126 (by decide) (fun _ => ?_) (fun h9 => absurd h9 h5)
      refine lv_aload_n hx hb dX5_place_146 rfl (lv_at hl 4 rfl) ?_
      refine lv_iload hx hb dX5_place_147 (lv_at hl 3 rfl) ?_
      refine lv_iload_n hx hb dX5_place_149 rfl (lv_at hl 5 rfl) ?_
      refine lv_iload_n hx hb dX5_place_150 rfl (lv_at hl 6 rfl) ?_
      refine kFv (As := [.int (r3), .int (a0), .int (a1)]) (rest := []) hx hb hml hown hG hl (okX5_wrong l D cI cJ cP ad H.size u2 r3 a0 a1 j2 j3) (cV 3 hG kw247 kw248 kw249 kw250 kw238 hdX5_wrong ⟨by decide, by decide⟩) 0 5 rfl rfl hK hP hD hS hA hN rfl rfl (Nat.le_of_ble_eq_true rfl) dX5_place_151 ⟨Nat.zero_le _, Nat.zero_le _⟩ (fun u6 q6 H locs hP hD hS => ?_)
      have j6 : ivX5_wrongP u6 := by rw [q6]; exact ivX5_wrong u2 r3 a0 a1 j2 j3
      refine lv_iconst (v := (-1)) hx hb dX5_place_154 (by decide) ?_
      exact reti (u := u6) hx hb hr hlocks hK hP hD hS dX5_place_155 (by unfold fnX5_place; (try dsimp only); rw [if_pos h1]; rw [← q2]; (try dsimp only); rw [← q3]; (try dsimp only); rw [← q4]; (try dsimp only); rw [if_neg h5]; rw [← q6]; (try dsimp only); (try exact rfl))
    · refine lv_aload_n hx hb dX5_place_48 rfl (lv_at hl 2 rfl) ?_
      refine va_get (D := D) (ci := 5) (v := .long (u2.2.2.2.2.2.2.2.2.2.2.2.2.2.1.1)) hx hb hG inX5 hown hK hP 0 rfl rfl 34 (by decide) (hG _ kw260) (fun _ h9 => h9) rfl dX5_place_49 ?_
      refine lv_ldc2 (v := 17179869184) hx hb hown (hG _ kw269) dX5_place_52 ?_
      refine lv_land hx hb dX5_place_55 ?_
      refine lv_lconst (v := 0) hx hb dX5_place_56 (by decide) ?_
      refine lq_ne (tgt := 70) hx hb dX5_place_57 dX5_place_58 (by decide) (fun h7 => ?_) (fun h7 => ?_)
      · refine lv_iload hx hb dX5_place_70 (lv_at hl 0 rfl) ?_
        refine lv_iload_n hx hb dX5_place_72 rfl (lv_at hl 4 rfl) ?_
        refine lv_bipush (v := 64) hx hb dX5_place_73 (by decide) ?_
        refine lv_idiv hx hb dX5_place_75 (by decide) ?_
        refine lv_iadd hx hb dX5_place_76 ?_
        refine lv_sipush (v := 4095) hx hb dX5_place_77 (by decide) ?_
        refine lv_iand hx hb dX5_place_80 ?_
        refine lv_istore (lv' := [(7, .int (((r4 + (a1 / (64 : Int32))) &&& (4095 : Int32)))), (6, .int (r4)), (5, .int (r3)), (0, .ref (ad 0)), (1, .int (a0)), (2, .int (a1)), (3, .int (a2)), (4, .int (a3))]) hx hb dX5_place_81 hl (by decide) rfl (fun ls hl => ?_)
        refine lv_iload hx hb dX5_place_83 (lv_at hl 2 rfl) ?_
        refine lv_if_ne (tgt := 102) hx hb dX5_place_85 (by decide) (fun h9 => absurd h5 h9) (fun _ => ?_)
        refine lv_aload_n hx hb dX5_place_88 rfl (lv_at hl 3 rfl) ?_
        refine lv_iload_n hx hb dX5_place_89 rfl (lv_at hl 4 rfl) ?_
        refine lv_iload_n hx hb dX5_place_90 rfl (lv_at hl 5 rfl) ?_
        refine lv_bipush (v := 64) hx hb dX5_place_91 (by decide) ?_
        refine lv_idiv hx hb dX5_place_93 (by decide) ?_
        refine lv_iload hx hb dX5_place_94 (lv_at hl 0 rfl) ?_
        refine kFl (As := [.int (a0), .int ((a1 / (64 : Int32))), .int (((r4 + (a1 / (64 : Int32))) &&& (4095 : Int32)))]) (rest := []) hx hb hml hown hG hl (okX5_lookPage l D cI cJ cP ad H.size u2 a0 (a1 / (64 : Int32)) ((r4 + (a1 / (64 : Int32))) &&& (4095 : Int32)) j2 (mk12 _)) (cV 3 hG kw277 kw278 kw279 kw280 kw238 hdX5_lookPage ⟨by decide, by decide⟩) 0 5 rfl rfl hK hP hD hS hA hN rfl rfl (Nat.le_of_ble_eq_true rfl) dX5_place_96 ⟨Nat.zero_le _, Nat.zero_le _⟩ (fun r8 u8 q8 H locs hP hD hS => ?_)
        have j8 : ivX5_lookPageP (r8, u8) := by rw [q8]; exact ivX5_lookPage u2 a0 (a1 / (64 : Int32)) ((r4 + (a1 / (64 : Int32))) &&& (4095 : Int32)) j2 (mk12 _)
        refine lv_goto (tgt := 103) hx hb dX5_place_99 (by decide) ?_
        refine lv_lstore (lv' := [(8, .long (r8)), (7, .int (((r4 + (a1 / (64 : Int32))) &&& (4095 : Int32)))), (6, .int (r4)), (5, .int (r3)), (0, .ref (ad 0)), (1, .int (a0)), (2, .int (a1)), (3, .int (a2)), (4, .int (a3))]) hx hb dX5_place_103 hl (by decide) rfl (fun ls hl => ?_)
        refine lv_iload hx hb dX5_place_105 (lv_at hl 3 rfl) ?_
        refine lv_if_ne (tgt := 124) hx hb dX5_place_107 (by decide) (fun h9 => absurd h5 h9) (fun _ => ?_)
        refine lv_lload hx hb dX5_place_110 (lv_at hl 0 rfl) ?_
        refine lv_ldc2 (v := 34359738368) hx hb hown (hG _ kw236) dX5_place_112 ?_
        refine lv_land hx hb dX5_place_115 ?_
        refine lv_lconst (v := 0) hx hb dX5_place_116 (by decide) ?_
        refine lq_ne (tgt := 124) hx hb dX5_place_117 dX5_place_118 (by decide) (fun h9 => ?_) (fun h9 => ?_)
        · refine lv_iload hx hb dX5_place_124 (lv_at hl 3 rfl) ?_
          refine lv_if_ne (tgt := 146) hx hb dX5_place_126 (by decide) (fun h9 => absurd h5 h9) (fun _ => ?_)
          refine lv_bipush (v := 64) hx hb dX5_place_129 (by decide) ?_
          refine lv_lload hx hb dX5_place_131 (lv_at hl 0 rfl) ?_
          refine lv_iconst (v := 0) hx hb dX5_place_133 (by decide) ?_
          refine lv_bipush (v := 6) hx hb dX5_place_134 (by decide) ?_
          refine k0Si (As := [.long (r8), .int ((0 : Int32)), .int ((6 : Int32))]) (rest := [.int ((64 : Int32))]) hx hb hml hown hG hl (okX5_bits l D cI cJ cP  H.size r8 (0 : Int32) (6 : Int32) ) (cS 3 hG kw237 kw239 kw240 kw238 hdX5_bits ⟨by decide, by decide⟩) hK hP hD hS hA hN rfl rfl (Nat.le_of_ble_eq_true rfl) dX5_place_136 ⟨Nat.zero_le _, Nat.zero_le _⟩ (fun r10 q10 H locs hP hD hS => ?_)
          have j10 : i6 r10 := by rw [q10]; exact (f6M r8 (0 : Int32))
          refine lv_imul hx hb dX5_place_139 ?_
          refine lv_iload_n hx hb dX5_place_140 rfl (lv_at hl 6 rfl) ?_
          refine lv_bipush (v := 64) hx hb dX5_place_141 (by decide) ?_
          refine lv_irem hx hb dX5_place_143 (by decide) ?_
          refine lv_iadd hx hb dX5_place_144 ?_
          exact reti (u := u8) hx hb hr hlocks hK hP hD hS dX5_place_145 (by unfold fnX5_place; (try dsimp only); rw [if_pos h1]; rw [← q2]; (try dsimp only); rw [← q3]; (try dsimp only); rw [← q4]; (try dsimp only); rw [if_pos h5]; rw [if_neg h7]; rw [← q8]; (try dsimp only); rw [if_neg h9]; rw [← q10]; (try dsimp only); (try exact rfl))
        · refine lv_iconst (v := 2) hx hb dX5_place_121 (by decide) ?_
          refine lv_istore (lv' := [(5, .int ((2 : Int32))), (8, .long (r8)), (7, .int (((r4 + (a1 / (64 : Int32))) &&& (4095 : Int32)))), (6, .int (r4)), (0, .ref (ad 0)), (1, .int (a0)), (2, .int (a1)), (3, .int (a2)), (4, .int (a3))]) hx hb dX5_place_122 hl (by decide) rfl (fun ls hl => ?_)
          refine lv_iload hx hb dX5_place_124 (lv_at hl 0 rfl) ?_
          refine lv_if_ne (tgt := 146) hx hb dX5_place_126 (by decide) (fun _ => ?_) (fun h9 => absurd h9 (by decide))
          refine lv_aload_n hx hb dX5_place_146 rfl (lv_at hl 4 rfl) ?_
          refine lv_iload hx hb dX5_place_147 (lv_at hl 0 rfl) ?_
          refine lv_iload_n hx hb dX5_place_149 rfl (lv_at hl 5 rfl) ?_
          refine lv_iload_n hx hb dX5_place_150 rfl (lv_at hl 6 rfl) ?_
          refine kFv (As := [.int ((2 : Int32)), .int (a0), .int (a1)]) (rest := []) hx hb hml hown hG hl (okX5_wrong l D cI cJ cP ad H.size u8 (2 : Int32) a0 a1 j8 (show i4 (2 : Int32) from by decide)) (cV 3 hG kw247 kw248 kw249 kw250 kw238 hdX5_wrong ⟨by decide, by decide⟩) 0 5 rfl rfl hK hP hD hS hA hN rfl rfl (Nat.le_of_ble_eq_true rfl) dX5_place_151 ⟨Nat.zero_le _, Nat.zero_le _⟩ (fun u11 q11 H locs hP hD hS => ?_)
          have j11 : ivX5_wrongP u11 := by rw [q11]; exact ivX5_wrong u8 (2 : Int32) a0 a1 j8 (show i4 (2 : Int32) from by decide)
          refine lv_iconst (v := (-1)) hx hb dX5_place_154 (by decide) ?_
          exact reti (u := u11) hx hb hr hlocks hK hP hD hS dX5_place_155 (by unfold fnX5_place; (try dsimp only); rw [if_pos h1]; rw [← q2]; (try dsimp only); rw [← q3]; (try dsimp only); rw [← q4]; (try dsimp only); rw [if_pos h5]; rw [if_neg h7]; rw [← q8]; (try dsimp only); rw [if_pos h9]; rw [← q11]; (try dsimp only); (try exact rfl))
      · refine lv_iload hx hb dX5_place_61 (lv_at hl 0 rfl) ?_
        refine lv_iload_n hx hb dX5_place_63 rfl (lv_at hl 4 rfl) ?_
        refine lv_iadd hx hb dX5_place_64 ?_
        refine lv_sipush (v := 4095) hx hb dX5_place_65 (by decide) ?_
        refine lv_iand hx hb dX5_place_68 ?_
        exact reti (u := u2) hx hb hr hlocks hK hP hD hS dX5_place_69 (by unfold fnX5_place; (try dsimp only); rw [if_pos h1]; rw [← q2]; (try dsimp only); rw [← q3]; (try dsimp only); rw [← q4]; (try dsimp only); rw [if_pos h5]; rw [if_pos h7]; (try exact rfl))
  · refine lv_iconst (v := (-1)) hx hb dX5_place_7 (by decide) ?_
    exact reti (u := x) hx hb hr hlocks hK hP hD hS dX5_place_8 (by unfold fnX5_place; (try dsimp only); rw [if_neg h1]; (try exact rfl))
def fnX5_read (x : TM) (a0 : Int32) (a1 : Int32) (a2 : Int32) : Int64 × TM :=
  let p1 := fnX5_place x a0 a1 a2 (0 : Int32)
  if (0 : Int32) ≤ p1.1 then
   ((p1.2.2.1 (p1.1).toNatClampNeg), p1.2)
  else
   ((0 : Int64), p1.2)
abbrev ivX5_readP (z : Int64 × TM) : Prop := iM z.2
set_option maxRecDepth 100000 in
set_option maxHeartbeats 4000000 in
theorem ivX5_read (x : TM) (a0 : Int32) (a1 : Int32) (a2 : Int32) (hI : iM x) (g0 : i4 a0) (g1 : i12 a1) : ivX5_readP (fnX5_read x a0 a1 a2) := by
  unfold fnX5_read
  try dsimp only
  have j1 : ivX5_placeP (fnX5_place x a0 a1 a2 (0 : Int32)) := ivX5_place x a0 a1 a2 (0 : Int32) hI g0 g1
  generalize fnX5_place x a0 a1 a2 (0 : Int32) = p1 at j1 ⊢
  refine iteI (fun h2 => ?_) (fun h2 => ?_)
  · exact j1.2
  · exact j1.2
set_option maxRecDepth 100000 in
set_option maxHeartbeats 4000000 in
theorem okX5_read (l : Launch) (D : va_G) (cI cJ cP : ClassId) (ad : Nat → Nat) (sz : Nat) (x : TM) (a0 : Int32) (a1 : Int32) (a2 : Int32) (hI : iM x) (g0 : i4 a0) (g1 : i12 a1) : Met l yX5_read (Cond.code yX5_read cX5_read 5 (some .long) :: gG) { frames := 3, cells := 0, slots := 0, locals := 81 } (va_Pc [.ref (ad 0), .int a0, .int a1, .int a2] (PRE D (tz cI cJ cP) sz (wM cI cJ ad x))) (va_Ql (fun (r : Int64) (u : TM) => (r, u) = fnX5_read x a0 a1 a2) (AT D (tz cI cJ cP) (va_A (wM cI cJ ad x) sz) (fun (u : TM) => (wM cI cJ ad u))) (va_A (wM cI cJ ad x) sz)) 0 0 (va_A (wM cI cJ ad x) sz) := by
  refine mo (QA := fun A => va_Ql (fun (r : Int64) (u : TM) => (r, u) = fnX5_read x a0 a1 a2) (AT D (tz cI cJ cP) A (fun (u : TM) => (wM cI cJ ad u))) A) (by decide) (Nat.le_of_ble_eq_true rfl) ?_
  intro p e s m below meth c A ls H hx hb hr hml hown hG hlocks hnm hA hS hP hK hD hl hN
  have hown : s.vm.findClass RX5 = some m.cls := hown
  have hl : lv_has ls 5 [(0, .ref (ad 0)), (1, .int a0), (2, .int a1), (3, .int a2)] := hl
  refine lv_aload_n hx hb dX5_read_0 rfl (lv_at hl 0 rfl) ?_
  refine lv_iload_n hx hb dX5_read_1 rfl (lv_at hl 1 rfl) ?_
  refine lv_iload_n hx hb dX5_read_2 rfl (lv_at hl 2 rfl) ?_
  refine lv_iload_n hx hb dX5_read_3 rfl (lv_at hl 3 rfl) ?_
  refine lv_iconst (v := 0) hx hb dX5_read_4 (by decide) ?_
  refine kFi (As := [.int (a0), .int (a1), .int (a2), .int ((0 : Int32))]) (rest := []) hx hb hml hown hG hl (okX5_place l D cI cJ cP ad H.size x a0 a1 a2 (0 : Int32) hI g0 g1) (cV 4 hG kw281 kw282 kw283 kw284 kw238 hdX5_place ⟨by decide, by decide⟩) 0 5 rfl rfl hK hP hD hS hA hN rfl rfl (Nat.le_of_ble_eq_true rfl) dX5_read_5 ⟨Nat.zero_le _, Nat.zero_le _⟩ (fun r1 u1 q1 H locs hP hD hS => ?_)
  have j1 : ivX5_placeP (r1, u1) := by rw [q1]; exact ivX5_place x a0 a1 a2 (0 : Int32) hI g0 g1
  refine lv_istore (lv' := [(4, .int (r1)), (0, .ref (ad 0)), (1, .int (a0)), (2, .int (a1)), (3, .int (a2))]) hx hb dX5_read_8 hl (by decide) rfl (fun ls hl => ?_)
  refine lv_iload hx hb dX5_read_10 (lv_at hl 0 rfl) ?_
  refine lv_if_ge (tgt := 19) hx hb dX5_read_12 (by decide) (fun h2 => ?_) (fun h2 => ?_)
  · refine lv_aload_n hx hb dX5_read_19 rfl (lv_at hl 1 rfl) ?_
    refine va_get (D := D) (ci := 5) (v := .ref (ad 1)) hx hb hG inX5 hown hK hP 0 rfl rfl 1 (by decide) (hG _ kw263) (fun _ h9 => h9) rfl dX5_read_20 ?_
    refine lv_iload hx hb dX5_read_23 (lv_at hl 0 rfl) ?_
    refine gl (D := D) (j := (r1).toNatClampNeg) (f := u1.2.1) hx hb hK hP 1 1 rfl rfl (in12 (pcI j1.1 (Int32.not_lt.mpr h2))) rfl dX5_read_25 ?_
    exact retl (u := u1) hx hb hr hlocks hK hP hD hS dX5_read_26 (by unfold fnX5_read; rw [← q1]; (try dsimp only); rw [if_pos h2]; (try exact rfl))
  · refine lv_lconst (v := 0) hx hb dX5_read_15 (by decide) ?_
    refine lv_goto (tgt := 26) hx hb dX5_read_16 (by decide) ?_
    exact retl (u := u1) hx hb hr hlocks hK hP hD hS dX5_read_26 (by unfold fnX5_read; rw [← q1]; (try dsimp only); rw [if_neg h2]; (try exact rfl))
def fnX5_write (x : TM) (a0 : Int64) : TM :=
  let p1 := fnX5_place x x.2.2.2.2.2.2.2.2.2.2.2.2.1.1 x.2.2.2.2.2.2.2.2.2.2.2.2.1.2.1 x.2.2.2.2.2.2.2.2.2.2.2.2.1.2.2 (1 : Int32)
  if (0 : Int32) ≤ p1.1 then
   if (p1.2.2.2.2.2.2.2.2.2.2.2.2.2.2.1.1 &&& (17179869184 : Int64)) = (0 : Int64) then
    (p1.2.1, (vp_updL p1.2.2.1 (p1.1).toNatClampNeg (a0 &&& (68719476735 : Int64))), p1.2.2.2.1, p1.2.2.2.2.1, p1.2.2.2.2.2.1, p1.2.2.2.2.2.2.1, p1.2.2.2.2.2.2.2.1, p1.2.2.2.2.2.2.2.2.1, p1.2.2.2.2.2.2.2.2.2.1, p1.2.2.2.2.2.2.2.2.2.2.1, p1.2.2.2.2.2.2.2.2.2.2.2.1, p1.2.2.2.2.2.2.2.2.2.2.2.2.1, p1.2.2.2.2.2.2.2.2.2.2.2.2.2.1, p1.2.2.2.2.2.2.2.2.2.2.2.2.2.2.1, p1.2.2.2.2.2.2.2.2.2.2.2.2.2.2.2)
   else
    if ((p1.2.2.2.2.1.2.2 0) &&& (8589934592 : Int64)) = (0 : Int64) then
     let p5 := fnX5_bits p1.2.2.2.2.2.2.2.2.2.2.2.2.2.2.1.1 (0 : Int32) (12 : Int32)
     (p1.2.1, (vp_updL (vp_updL p1.2.2.1 (((p5 + (p1.2.2.2.2.2.2.2.2.2.2.2.2.2.1.2.1 / (64 : Int32))) &&& (4095 : Int32))).toNatClampNeg ((p1.2.2.1 (((p5 + (p1.2.2.2.2.2.2.2.2.2.2.2.2.2.1.2.1 / (64 : Int32))) &&& (4095 : Int32))).toNatClampNeg) ||| (8589934592 : Int64))) (p1.1).toNatClampNeg (a0 &&& (68719476735 : Int64))), p1.2.2.2.1, (p1.2.2.2.2.1.1, p1.2.2.2.2.1.2.1, (vp_updL p1.2.2.2.2.1.2.2 0 ((p1.2.2.2.2.1.2.2 0) ||| (8589934592 : Int64)))), p1.2.2.2.2.2.1, p1.2.2.2.2.2.2.1, p1.2.2.2.2.2.2.2.1, p1.2.2.2.2.2.2.2.2.1, p1.2.2.2.2.2.2.2.2.2.1, p1.2.2.2.2.2.2.2.2.2.2.1, p1.2.2.2.2.2.2.2.2.2.2.2.1, p1.2.2.2.2.2.2.2.2.2.2.2.2.1, p1.2.2.2.2.2.2.2.2.2.2.2.2.2.1, p1.2.2.2.2.2.2.2.2.2.2.2.2.2.2.1, p1.2.2.2.2.2.2.2.2.2.2.2.2.2.2.2)
    else
     (p1.2.1, (vp_updL p1.2.2.1 (p1.1).toNatClampNeg (a0 &&& (68719476735 : Int64))), p1.2.2.2.1, p1.2.2.2.2.1, p1.2.2.2.2.2.1, p1.2.2.2.2.2.2.1, p1.2.2.2.2.2.2.2.1, p1.2.2.2.2.2.2.2.2.1, p1.2.2.2.2.2.2.2.2.2.1, p1.2.2.2.2.2.2.2.2.2.2.1, p1.2.2.2.2.2.2.2.2.2.2.2.1, p1.2.2.2.2.2.2.2.2.2.2.2.2.1, p1.2.2.2.2.2.2.2.2.2.2.2.2.2.1, p1.2.2.2.2.2.2.2.2.2.2.2.2.2.2.1, p1.2.2.2.2.2.2.2.2.2.2.2.2.2.2.2)
  else
   p1.2
abbrev ivX5_writeP (z : TM) : Prop := iM z
set_option maxRecDepth 100000 in
set_option maxHeartbeats 4000000 in
theorem ivX5_write (x : TM) (a0 : Int64) (hI : iM x) : ivX5_writeP (fnX5_write x a0) := by
  unfold fnX5_write
  try dsimp only
  have j1 : ivX5_placeP (fnX5_place x x.2.2.2.2.2.2.2.2.2.2.2.2.1.1 x.2.2.2.2.2.2.2.2.2.2.2.2.1.2.1 x.2.2.2.2.2.2.2.2.2.2.2.2.1.2.2 (1 : Int32)) := ivX5_place x x.2.2.2.2.2.2.2.2.2.2.2.2.1.1 x.2.2.2.2.2.2.2.2.2.2.2.2.1.2.1 x.2.2.2.2.2.2.2.2.2.2.2.2.1.2.2 (1 : Int32) hI hI.2.2.2.2.2.2.2.1 hI.2.2.2.2.2.2.2.2
  generalize fnX5_place x x.2.2.2.2.2.2.2.2.2.2.2.2.1.1 x.2.2.2.2.2.2.2.2.2.2.2.2.1.2.1 x.2.2.2.2.2.2.2.2.2.2.2.2.1.2.2 (1 : Int32) = p1 at j1 ⊢
  refine iteI (fun h2 => ?_) (fun h2 => ?_)
  · refine iteI (fun h3 => ?_) (fun h3 => ?_)
    · exact ⟨j1.2.1, j1.2.2.1, j1.2.2.2.1, j1.2.2.2.2.1, j1.2.2.2.2.2.1, j1.2.2.2.2.2.2.1, j1.2.2.2.2.2.2.2.1, j1.2.2.2.2.2.2.2.2⟩
    · refine iteI (fun h4 => ?_) (fun h4 => ?_)
      · have j5 : i12 (fnX5_bits p1.2.2.2.2.2.2.2.2.2.2.2.2.2.2.1.1 (0 : Int32) (12 : Int32)) := (f12M p1.2.2.2.2.2.2.2.2.2.2.2.2.2.2.1.1 (0 : Int32))
        generalize fnX5_bits p1.2.2.2.2.2.2.2.2.2.2.2.2.2.2.1.1 (0 : Int32) (12 : Int32) = p5 at j5 ⊢
        exact ⟨j1.2.1, j1.2.2.1, j1.2.2.2.1, j1.2.2.2.2.1, j1.2.2.2.2.2.1, j1.2.2.2.2.2.2.1, j1.2.2.2.2.2.2.2.1, j1.2.2.2.2.2.2.2.2⟩
      · exact ⟨j1.2.1, j1.2.2.1, j1.2.2.2.1, j1.2.2.2.2.1, j1.2.2.2.2.2.1, j1.2.2.2.2.2.2.1, j1.2.2.2.2.2.2.2.1, j1.2.2.2.2.2.2.2.2⟩
  · exact j1.2
set_option maxRecDepth 100000 in
set_option maxHeartbeats 4000000 in
theorem okX5_write (l : Launch) (D : va_G) (cI cJ cP : ClassId) (ad : Nat → Nat) (sz : Nat) (x : TM) (a0 : Int64) (hI : iM x) : Met l yX5_write (Cond.code yX5_write cX5_write 5 none :: gG) { frames := 3, cells := 0, slots := 0, locals := 81 } (va_Pc [.ref (ad 0), .long a0] (PRE D (tz cI cJ cP) sz (wM cI cJ ad x))) (va_Qv (fun (u : TM) => u = fnX5_write x a0) (AT D (tz cI cJ cP) (va_A (wM cI cJ ad x) sz) (fun (u : TM) => (wM cI cJ ad u))) (va_A (wM cI cJ ad x) sz)) 0 0 (va_A (wM cI cJ ad x) sz) := by
  refine mo (QA := fun A => va_Qv (fun (u : TM) => u = fnX5_write x a0) (AT D (tz cI cJ cP) A (fun (u : TM) => (wM cI cJ ad u))) A) (by decide) (Nat.le_of_ble_eq_true rfl) ?_
  intro p e s m below meth c A ls H hx hb hr hml hown hG hlocks hnm hA hS hP hK hD hl hN
  have hown : s.vm.findClass RX5 = some m.cls := hown
  have hl : lv_has ls 5 [(0, .ref (ad 0)), (1, .long a0)] := hl
  refine lv_aload_n hx hb dX5_write_0 rfl (lv_at hl 0 rfl) ?_
  refine lv_aload_n hx hb dX5_write_1 rfl (lv_at hl 0 rfl) ?_
  refine va_get (D := D) (ci := 5) (v := .int (x.2.2.2.2.2.2.2.2.2.2.2.2.1.1)) hx hb hG inX5 hown hK hP 0 rfl rfl 31 (by decide) (hG _ kw285) (fun _ h9 => h9) rfl dX5_write_2 ?_
  refine lv_aload_n hx hb dX5_write_5 rfl (lv_at hl 0 rfl) ?_
  refine va_get (D := D) (ci := 5) (v := .int (x.2.2.2.2.2.2.2.2.2.2.2.2.1.2.1)) hx hb hG inX5 hown hK hP 0 rfl rfl 32 (by decide) (hG _ kw286) (fun _ h9 => h9) rfl dX5_write_6 ?_
  refine lv_aload_n hx hb dX5_write_9 rfl (lv_at hl 0 rfl) ?_
  refine va_get (D := D) (ci := 5) (v := .int (x.2.2.2.2.2.2.2.2.2.2.2.2.1.2.2)) hx hb hG inX5 hown hK hP 0 rfl rfl 33 (by decide) (hG _ kw287) (fun _ h9 => h9) rfl dX5_write_10 ?_
  refine lv_iconst (v := 1) hx hb dX5_write_13 (by decide) ?_
  refine kFi (As := [.int (x.2.2.2.2.2.2.2.2.2.2.2.2.1.1), .int (x.2.2.2.2.2.2.2.2.2.2.2.2.1.2.1), .int (x.2.2.2.2.2.2.2.2.2.2.2.2.1.2.2), .int ((1 : Int32))]) (rest := []) hx hb hml hown hG hl (okX5_place l D cI cJ cP ad H.size x x.2.2.2.2.2.2.2.2.2.2.2.2.1.1 x.2.2.2.2.2.2.2.2.2.2.2.2.1.2.1 x.2.2.2.2.2.2.2.2.2.2.2.2.1.2.2 (1 : Int32) hI hI.2.2.2.2.2.2.2.1 hI.2.2.2.2.2.2.2.2) (cV 4 hG kw281 kw282 kw283 kw284 kw238 hdX5_place ⟨by decide, by decide⟩) 0 5 rfl rfl hK hP hD hS hA hN rfl rfl (Nat.le_of_ble_eq_true rfl) dX5_write_14 ⟨Nat.zero_le _, Nat.zero_le _⟩ (fun r1 u1 q1 H locs hP hD hS => ?_)
  have j1 : ivX5_placeP (r1, u1) := by rw [q1]; exact ivX5_place x x.2.2.2.2.2.2.2.2.2.2.2.2.1.1 x.2.2.2.2.2.2.2.2.2.2.2.2.1.2.1 x.2.2.2.2.2.2.2.2.2.2.2.2.1.2.2 (1 : Int32) hI hI.2.2.2.2.2.2.2.1 hI.2.2.2.2.2.2.2.2
  refine lv_istore_n (lv' := [(3, .int (r1)), (0, .ref (ad 0)), (1, .long (a0))]) hx hb dX5_write_17 rfl hl (by decide) rfl (fun ls hl => ?_)
  refine lv_iload_n hx hb dX5_write_18 rfl (lv_at hl 0 rfl) ?_
  refine lv_if_ge (tgt := 23) hx hb dX5_write_19 (by decide) (fun h2 => ?_) (fun h2 => ?_)
  · refine lv_aload_n hx hb dX5_write_23 rfl (lv_at hl 1 rfl) ?_
    refine va_get (D := D) (ci := 5) (v := .long (u1.2.2.2.2.2.2.2.2.2.2.2.2.2.1.1)) hx hb hG inX5 hown hK hP 0 rfl rfl 34 (by decide) (hG _ kw260) (fun _ h9 => h9) rfl dX5_write_24 ?_
    refine lv_ldc2 (v := 17179869184) hx hb hown (hG _ kw269) dX5_write_27 ?_
    refine lv_land hx hb dX5_write_30 ?_
    refine lv_lconst (v := 0) hx hb dX5_write_31 (by decide) ?_
    refine lq_eq (tgt := 109) hx hb dX5_write_32 dX5_write_33 (by decide) (fun h3 => ?_) (fun h3 => ?_)
    · refine lv_aload_n hx hb dX5_write_109 rfl (lv_at hl 1 rfl) ?_
      refine va_get (D := D) (ci := 5) (v := .ref (ad 1)) hx hb hG inX5 hown hK hP 0 rfl rfl 1 (by decide) (hG _ kw263) (fun _ h9 => h9) rfl dX5_write_110 ?_
      refine lv_iload_n hx hb dX5_write_113 rfl (lv_at hl 0 rfl) ?_
      refine lv_lload_n hx hb dX5_write_114 rfl (lv_at hl 2 rfl) ?_
      refine lv_ldc2 (v := 68719476735) hx hb hown (hG _ kw288) dX5_write_115 ?_
      refine lv_land hx hb dX5_write_118 ?_
      refine sl (D := D) (j := (r1).toNatClampNeg) (f := u1.2.1) (x := (a0 &&& (68719476735 : Int64))) (W' := (wM cI cJ ad (u1.1, (vp_updL u1.2.1 (r1).toNatClampNeg (a0 &&& (68719476735 : Int64))), u1.2.2.1, u1.2.2.2.1, u1.2.2.2.2.1, u1.2.2.2.2.2.1, u1.2.2.2.2.2.2.1, u1.2.2.2.2.2.2.2.1, u1.2.2.2.2.2.2.2.2.1, u1.2.2.2.2.2.2.2.2.2.1, u1.2.2.2.2.2.2.2.2.2.2.1, u1.2.2.2.2.2.2.2.2.2.2.2.1, u1.2.2.2.2.2.2.2.2.2.2.2.2.1, u1.2.2.2.2.2.2.2.2.2.2.2.2.2.1, u1.2.2.2.2.2.2.2.2.2.2.2.2.2.2))) hx hb hK hP hD hS 1 1 rfl rfl (in12 (pcI j1.1 (Int32.not_lt.mpr h2))) rfl dX5_write_119 rfl (fun H locs hP hD hS => ?_)
      exact retv (u := (u1.1, (vp_updL u1.2.1 (r1).toNatClampNeg (a0 &&& (68719476735 : Int64))), u1.2.2.1, u1.2.2.2.1, u1.2.2.2.2.1, u1.2.2.2.2.2.1, u1.2.2.2.2.2.2.1, u1.2.2.2.2.2.2.2.1, u1.2.2.2.2.2.2.2.2.1, u1.2.2.2.2.2.2.2.2.2.1, u1.2.2.2.2.2.2.2.2.2.2.1, u1.2.2.2.2.2.2.2.2.2.2.2.1, u1.2.2.2.2.2.2.2.2.2.2.2.2.1, u1.2.2.2.2.2.2.2.2.2.2.2.2.2.1, u1.2.2.2.2.2.2.2.2.2.2.2.2.2.2)) hx hb hr hlocks hK hP hD hS dX5_write_120 (by unfold fnX5_write; rw [← q1]; (try dsimp only); rw [if_pos h2]; rw [if_pos h3]; (try exact rfl))
    · refine lv_aload_n hx hb dX5_write_36 rfl (lv_at hl 1 rfl) ?_
      refine va_get (D := D) (ci := 5) (v := .ref (ad 6)) hx hb hG inX5 hown hK hP 0 rfl rfl 8 (by decide) (hG _ kw268) (fun _ h9 => h9) rfl dX5_write_37 ?_
      refine lv_iconst (v := 0) hx hb dX5_write_40 (by decide) ?_
      refine gl (D := D) (j := 0) (f := u1.2.2.2.1.2.2) hx hb hK hP 6 1 rfl rfl (inL (by decide)) (by decide) dX5_write_41 ?_
      refine lv_ldc2 (v := 8589934592) hx hb hown (hG _ kw235) dX5_write_42 ?_
      refine lv_land hx hb dX5_write_45 ?_
      refine lv_lconst (v := 0) hx hb dX5_write_46 (by decide) ?_
      refine lq_ne (tgt := 109) hx hb dX5_write_47 dX5_write_48 (by decide) (fun h4 => ?_) (fun h4 => ?_)
      · refine lv_aload_n hx hb dX5_write_109 rfl (lv_at hl 1 rfl) ?_
        refine va_get (D := D) (ci := 5) (v := .ref (ad 1)) hx hb hG inX5 hown hK hP 0 rfl rfl 1 (by decide) (hG _ kw263) (fun _ h9 => h9) rfl dX5_write_110 ?_
        refine lv_iload_n hx hb dX5_write_113 rfl (lv_at hl 0 rfl) ?_
        refine lv_lload_n hx hb dX5_write_114 rfl (lv_at hl 2 rfl) ?_
        refine lv_ldc2 (v := 68719476735) hx hb hown (hG _ kw288) dX5_write_115 ?_
        refine lv_land hx hb dX5_write_118 ?_
        refine sl (D := D) (j := (r1).toNatClampNeg) (f := u1.2.1) (x := (a0 &&& (68719476735 : Int64))) (W' := (wM cI cJ ad (u1.1, (vp_updL u1.2.1 (r1).toNatClampNeg (a0 &&& (68719476735 : Int64))), u1.2.2.1, u1.2.2.2.1, u1.2.2.2.2.1, u1.2.2.2.2.2.1, u1.2.2.2.2.2.2.1, u1.2.2.2.2.2.2.2.1, u1.2.2.2.2.2.2.2.2.1, u1.2.2.2.2.2.2.2.2.2.1, u1.2.2.2.2.2.2.2.2.2.2.1, u1.2.2.2.2.2.2.2.2.2.2.2.1, u1.2.2.2.2.2.2.2.2.2.2.2.2.1, u1.2.2.2.2.2.2.2.2.2.2.2.2.2.1, u1.2.2.2.2.2.2.2.2.2.2.2.2.2.2))) hx hb hK hP hD hS 1 1 rfl rfl (in12 (pcI j1.1 (Int32.not_lt.mpr h2))) rfl dX5_write_119 rfl (fun H locs hP hD hS => ?_)
        exact retv (u := (u1.1, (vp_updL u1.2.1 (r1).toNatClampNeg (a0 &&& (68719476735 : Int64))), u1.2.2.1, u1.2.2.2.1, u1.2.2.2.2.1, u1.2.2.2.2.2.1, u1.2.2.2.2.2.2.1, u1.2.2.2.2.2.2.2.1, u1.2.2.2.2.2.2.2.2.1, u1.2.2.2.2.2.2.2.2.2.1, u1.2.2.2.2.2.2.2.2.2.2.1, u1.2.2.2.2.2.2.2.2.2.2.2.1, u1.2.2.2.2.2.2.2.2.2.2.2.2.1, u1.2.2.2.2.2.2.2.2.2.2.2.2.2.1, u1.2.2.2.2.2.2.2.2.2.2.2.2.2.2)) hx hb hr hlocks hK hP hD hS dX5_write_120 (by unfold fnX5_write; rw [← q1]; (try dsimp only); rw [if_pos h2]; rw [if_neg h3]; rw [if_neg h4]; (try exact rfl))
      · refine lv_aload_n hx hb dX5_write_51 rfl (lv_at hl 1 rfl) ?_
        refine va_get (D := D) (ci := 5) (v := .long (u1.2.2.2.2.2.2.2.2.2.2.2.2.2.1.1)) hx hb hG inX5 hown hK hP 0 rfl rfl 34 (by decide) (hG _ kw260) (fun _ h9 => h9) rfl dX5_write_52 ?_
        refine lv_iconst (v := 0) hx hb dX5_write_55 (by decide) ?_
        refine lv_bipush (v := 12) hx hb dX5_write_56 (by decide) ?_
        refine k0Si (As := [.long (u1.2.2.2.2.2.2.2.2.2.2.2.2.2.1.1), .int ((0 : Int32)), .int ((12 : Int32))]) (rest := []) hx hb hml hown hG hl (okX5_bits l D cI cJ cP  H.size u1.2.2.2.2.2.2.2.2.2.2.2.2.2.1.1 (0 : Int32) (12 : Int32) ) (cS 3 hG kw237 kw239 kw240 kw238 hdX5_bits ⟨by decide, by decide⟩) hK hP hD hS hA hN rfl rfl (Nat.le_of_ble_eq_true rfl) dX5_write_58 ⟨Nat.zero_le _, Nat.zero_le _⟩ (fun r5 q5 H locs hP hD hS => ?_)
        have j5 : i12 r5 := by rw [q5]; exact (f12M u1.2.2.2.2.2.2.2.2.2.2.2.2.2.1.1 (0 : Int32))
        refine lv_aload_n hx hb dX5_write_61 rfl (lv_at hl 1 rfl) ?_
        refine va_get (D := D) (ci := 5) (v := .int (u1.2.2.2.2.2.2.2.2.2.2.2.2.1.2.1)) hx hb hG inX5 hown hK hP 0 rfl rfl 32 (by decide) (hG _ kw286) (fun _ h9 => h9) rfl dX5_write_62 ?_
        refine lv_bipush (v := 64) hx hb dX5_write_65 (by decide) ?_
        refine lv_idiv hx hb dX5_write_67 (by decide) ?_
        refine lv_iadd hx hb dX5_write_68 ?_
        refine lv_sipush (v := 4095) hx hb dX5_write_69 (by decide) ?_
        refine lv_iand hx hb dX5_write_72 ?_
        refine lv_istore (lv' := [(4, .int (((r5 + (u1.2.2.2.2.2.2.2.2.2.2.2.2.1.2.1 / (64 : Int32))) &&& (4095 : Int32)))), (3, .int (r1)), (0, .ref (ad 0)), (1, .long (a0))]) hx hb dX5_write_73 hl (by decide) rfl (fun ls hl => ?_)
        refine lv_aload_n hx hb dX5_write_75 rfl (lv_at hl 2 rfl) ?_
        refine va_get (D := D) (ci := 5) (v := .ref (ad 1)) hx hb hG inX5 hown hK hP 0 rfl rfl 1 (by decide) (hG _ kw263) (fun _ h9 => h9) rfl dX5_write_76 ?_
        refine lv_iload hx hb dX5_write_79 (lv_at hl 0 rfl) ?_
        refine lv_aload_n hx hb dX5_write_81 rfl (lv_at hl 2 rfl) ?_
        refine va_get (D := D) (ci := 5) (v := .ref (ad 1)) hx hb hG inX5 hown hK hP 0 rfl rfl 1 (by decide) (hG _ kw263) (fun _ h9 => h9) rfl dX5_write_82 ?_
        refine lv_iload hx hb dX5_write_85 (lv_at hl 0 rfl) ?_
        refine gl (D := D) (j := (((r5 + (u1.2.2.2.2.2.2.2.2.2.2.2.2.1.2.1 / (64 : Int32))) &&& (4095 : Int32))).toNatClampNeg) (f := u1.2.1) hx hb hK hP 1 1 rfl rfl (in12 (mk12 _)) rfl dX5_write_87 ?_
        refine lv_ldc2 (v := 8589934592) hx hb hown (hG _ kw235) dX5_write_88 ?_
        refine lv_lor hx hb dX5_write_91 ?_
        refine sl (D := D) (j := (((r5 + (u1.2.2.2.2.2.2.2.2.2.2.2.2.1.2.1 / (64 : Int32))) &&& (4095 : Int32))).toNatClampNeg) (f := u1.2.1) (x := ((u1.2.1 (((r5 + (u1.2.2.2.2.2.2.2.2.2.2.2.2.1.2.1 / (64 : Int32))) &&& (4095 : Int32))).toNatClampNeg) ||| (8589934592 : Int64))) (W' := (wM cI cJ ad (u1.1, (vp_updL u1.2.1 (((r5 + (u1.2.2.2.2.2.2.2.2.2.2.2.2.1.2.1 / (64 : Int32))) &&& (4095 : Int32))).toNatClampNeg ((u1.2.1 (((r5 + (u1.2.2.2.2.2.2.2.2.2.2.2.2.1.2.1 / (64 : Int32))) &&& (4095 : Int32))).toNatClampNeg) ||| (8589934592 : Int64))), u1.2.2.1, u1.2.2.2.1, u1.2.2.2.2.1, u1.2.2.2.2.2.1, u1.2.2.2.2.2.2.1, u1.2.2.2.2.2.2.2.1, u1.2.2.2.2.2.2.2.2.1, u1.2.2.2.2.2.2.2.2.2.1, u1.2.2.2.2.2.2.2.2.2.2.1, u1.2.2.2.2.2.2.2.2.2.2.2.1, u1.2.2.2.2.2.2.2.2.2.2.2.2.1, u1.2.2.2.2.2.2.2.2.2.2.2.2.2.1, u1.2.2.2.2.2.2.2.2.2.2.2.2.2.2))) hx hb hK hP hD hS 1 1 rfl rfl (in12 (mk12 _)) rfl dX5_write_92 rfl (fun H locs hP hD hS => ?_)
        refine lv_aload_n hx hb dX5_write_93 rfl (lv_at hl 2 rfl) ?_
        refine va_get (D := D) (ci := 5) (v := .ref (ad 6)) hx hb hG inX5 hown hK hP 0 rfl rfl 8 (by decide) (hG _ kw268) (fun _ h9 => h9) rfl dX5_write_94 ?_
        refine lv_iconst (v := 0) hx hb dX5_write_97 (by decide) ?_
        refine lv_aload_n hx hb dX5_write_98 rfl (lv_at hl 2 rfl) ?_
        refine va_get (D := D) (ci := 5) (v := .ref (ad 6)) hx hb hG inX5 hown hK hP 0 rfl rfl 8 (by decide) (hG _ kw268) (fun _ h9 => h9) rfl dX5_write_99 ?_
        refine lv_iconst (v := 0) hx hb dX5_write_102 (by decide) ?_
        refine gl (D := D) (j := 0) (f := u1.2.2.2.1.2.2) hx hb hK hP 6 1 rfl rfl (inL (by decide)) (by decide) dX5_write_103 ?_
        refine lv_ldc2 (v := 8589934592) hx hb hown (hG _ kw235) dX5_write_104 ?_
        refine lv_lor hx hb dX5_write_107 ?_
        refine sl (D := D) (j := 0) (f := u1.2.2.2.1.2.2) (x := ((u1.2.2.2.1.2.2 0) ||| (8589934592 : Int64))) (W' := (wM cI cJ ad (u1.1, (vp_updL u1.2.1 (((r5 + (u1.2.2.2.2.2.2.2.2.2.2.2.2.1.2.1 / (64 : Int32))) &&& (4095 : Int32))).toNatClampNeg ((u1.2.1 (((r5 + (u1.2.2.2.2.2.2.2.2.2.2.2.2.1.2.1 / (64 : Int32))) &&& (4095 : Int32))).toNatClampNeg) ||| (8589934592 : Int64))), u1.2.2.1, (u1.2.2.2.1.1, u1.2.2.2.1.2.1, (vp_updL u1.2.2.2.1.2.2 0 ((u1.2.2.2.1.2.2 0) ||| (8589934592 : Int64)))), u1.2.2.2.2.1, u1.2.2.2.2.2.1, u1.2.2.2.2.2.2.1, u1.2.2.2.2.2.2.2.1, u1.2.2.2.2.2.2.2.2.1, u1.2.2.2.2.2.2.2.2.2.1, u1.2.2.2.2.2.2.2.2.2.2.1, u1.2.2.2.2.2.2.2.2.2.2.2.1, u1.2.2.2.2.2.2.2.2.2.2.2.2.1, u1.2.2.2.2.2.2.2.2.2.2.2.2.2.1, u1.2.2.2.2.2.2.2.2.2.2.2.2.2.2))) hx hb hK hP hD hS 6 1 rfl rfl (inL (by decide)) (by decide) dX5_write_108 rfl (fun H locs hP hD hS => ?_)
        refine lv_aload_n hx hb dX5_write_109 rfl (lv_at hl 2 rfl) ?_
        refine va_get (D := D) (ci := 5) (v := .ref (ad 1)) hx hb hG inX5 hown hK hP 0 rfl rfl 1 (by decide) (hG _ kw263) (fun _ h9 => h9) rfl dX5_write_110 ?_
        refine lv_iload_n hx hb dX5_write_113 rfl (lv_at hl 1 rfl) ?_
        refine lv_lload_n hx hb dX5_write_114 rfl (lv_at hl 3 rfl) ?_
        refine lv_ldc2 (v := 68719476735) hx hb hown (hG _ kw288) dX5_write_115 ?_
        refine lv_land hx hb dX5_write_118 ?_
        refine sl (D := D) (j := (r1).toNatClampNeg) (f := (vp_updL u1.2.1 (((r5 + (u1.2.2.2.2.2.2.2.2.2.2.2.2.1.2.1 / (64 : Int32))) &&& (4095 : Int32))).toNatClampNeg ((u1.2.1 (((r5 + (u1.2.2.2.2.2.2.2.2.2.2.2.2.1.2.1 / (64 : Int32))) &&& (4095 : Int32))).toNatClampNeg) ||| (8589934592 : Int64)))) (x := (a0 &&& (68719476735 : Int64))) (W' := (wM cI cJ ad (u1.1, (vp_updL (vp_updL u1.2.1 (((r5 + (u1.2.2.2.2.2.2.2.2.2.2.2.2.1.2.1 / (64 : Int32))) &&& (4095 : Int32))).toNatClampNeg ((u1.2.1 (((r5 + (u1.2.2.2.2.2.2.2.2.2.2.2.2.1.2.1 / (64 : Int32))) &&& (4095 : Int32))).toNatClampNeg) ||| (8589934592 : Int64))) (r1).toNatClampNeg (a0 &&& (68719476735 : Int64))), u1.2.2.1, (u1.2.2.2.1.1, u1.2.2.2.1.2.1, (vp_updL u1.2.2.2.1.2.2 0 ((u1.2.2.2.1.2.2 0) ||| (8589934592 : Int64)))), u1.2.2.2.2.1, u1.2.2.2.2.2.1, u1.2.2.2.2.2.2.1, u1.2.2.2.2.2.2.2.1, u1.2.2.2.2.2.2.2.2.1, u1.2.2.2.2.2.2.2.2.2.1, u1.2.2.2.2.2.2.2.2.2.2.1, u1.2.2.2.2.2.2.2.2.2.2.2.1, u1.2.2.2.2.2.2.2.2.2.2.2.2.1, u1.2.2.2.2.2.2.2.2.2.2.2.2.2.1, u1.2.2.2.2.2.2.2.2.2.2.2.2.2.2))) hx hb hK hP hD hS 1 1 rfl rfl (in12 (pcI j1.1 (Int32.not_lt.mpr h2))) rfl dX5_write_119 rfl (fun H locs hP hD hS => ?_)
        exact retv (u := (u1.1, (vp_updL (vp_updL u1.2.1 (((r5 + (u1.2.2.2.2.2.2.2.2.2.2.2.2.1.2.1 / (64 : Int32))) &&& (4095 : Int32))).toNatClampNeg ((u1.2.1 (((r5 + (u1.2.2.2.2.2.2.2.2.2.2.2.2.1.2.1 / (64 : Int32))) &&& (4095 : Int32))).toNatClampNeg) ||| (8589934592 : Int64))) (r1).toNatClampNeg (a0 &&& (68719476735 : Int64))), u1.2.2.1, (u1.2.2.2.1.1, u1.2.2.2.1.2.1, (vp_updL u1.2.2.2.1.2.2 0 ((u1.2.2.2.1.2.2 0) ||| (8589934592 : Int64)))), u1.2.2.2.2.1, u1.2.2.2.2.2.1, u1.2.2.2.2.2.2.1, u1.2.2.2.2.2.2.2.1, u1.2.2.2.2.2.2.2.2.1, u1.2.2.2.2.2.2.2.2.2.1, u1.2.2.2.2.2.2.2.2.2.2.1, u1.2.2.2.2.2.2.2.2.2.2.2.1, u1.2.2.2.2.2.2.2.2.2.2.2.2.1, u1.2.2.2.2.2.2.2.2.2.2.2.2.2.1, u1.2.2.2.2.2.2.2.2.2.2.2.2.2.2)) hx hb hr hlocks hK hP hD hS dX5_write_120 (by unfold fnX5_write; rw [← q1]; (try dsimp only); rw [if_pos h2]; rw [if_neg h3]; rw [if_pos h4]; rw [← q5]; (try dsimp only); (try exact rfl))
  · exact retv (u := u1) hx hb hr hlocks hK hP hD hS dX5_write_22 (by unfold fnX5_write; rw [← q1]; (try dsimp only); rw [if_neg h2]; (try exact rfl))
