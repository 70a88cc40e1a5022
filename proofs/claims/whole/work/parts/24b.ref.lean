def fnX5_act (x : TM) (a0 : Int32) : TM :=
  if (11 : Int32) ≤ a0 then
   if a0 = (2 : Int32) then
    let p41 := fnX5_write x x.2.2.2.2.1.1
    p41
   else
    if a0 = (10 : Int32) then
     let p40 := fnX5_write x x.2.2.2.2.1.2
     p40
    else
     if a0 = (11 : Int32) then
      let p38 := fnX5_here x
      let p39 := fnX5_write p38.2 (p38.1 + (1 : Int64))
      p39
     else
      if (16 : Int32) ≤ a0 then
       if (20 : Int32) ≤ a0 then
        if (24 : Int32) ≤ a0 then
         if (28 : Int32) ≤ a0 then
          if (32 : Int32) ≤ a0 then
           if a0 = (32 : Int32) then
            (x.1, x.2.1, x.2.2.1, x.2.2.2.1, ((x.2.2.2.2.2.2.2.2.2.2.2.2.1.2.1).toInt64, x.2.2.2.2.1.2), x.2.2.2.2.2.1, x.2.2.2.2.2.2.1, x.2.2.2.2.2.2.2.1, x.2.2.2.2.2.2.2.2.1, x.2.2.2.2.2.2.2.2.2.1, x.2.2.2.2.2.2.2.2.2.2.1, x.2.2.2.2.2.2.2.2.2.2.2.1, x.2.2.2.2.2.2.2.2.2.2.2.2.1, x.2.2.2.2.2.2.2.2.2.2.2.2.2.1, x.2.2.2.2.2.2.2.2.2.2.2.2.2.2)
           else
            if a0 = (34 : Int32) then
             let p13 := fnX5_call x
             p13
            else
             let p12 := fnX5_back x
             p12
          else
           let p14 := fnX5_pointer (x.2.2.2.2.2.2.1.1 ((a0 &&& (3 : Int32))).toNatClampNeg) (x.2.2.2.2.2.2.1.2.1 ((a0 &&& (3 : Int32))).toNatClampNeg) (x.2.2.2.2.2.2.1.2.2 ((a0 &&& (3 : Int32))).toNatClampNeg)
           let p15 := fnX5_write x p14
           p15
         else
          (x.1, x.2.1, x.2.2.1, x.2.2.2.1, x.2.2.2.2.1, x.2.2.2.2.2.1, ((upd x.2.2.2.2.2.2.1.1 ((a0 &&& (3 : Int32))).toNatClampNeg x.2.2.2.2.2.2.2.2.2.2.2.2.1.1), (upd x.2.2.2.2.2.2.1.2.1 ((a0 &&& (3 : Int32))).toNatClampNeg x.2.2.2.2.2.2.2.2.2.2.2.2.1.2.1), (upd x.2.2.2.2.2.2.1.2.2 ((a0 &&& (3 : Int32))).toNatClampNeg x.2.2.2.2.2.2.2.2.2.2.2.2.1.2.2)), x.2.2.2.2.2.2.2.1, x.2.2.2.2.2.2.2.2.1, x.2.2.2.2.2.2.2.2.2.1, x.2.2.2.2.2.2.2.2.2.2.1, x.2.2.2.2.2.2.2.2.2.2.2.1, x.2.2.2.2.2.2.2.2.2.2.2.2.1, x.2.2.2.2.2.2.2.2.2.2.2.2.2.1, x.2.2.2.2.2.2.2.2.2.2.2.2.2.2)
        else
         if a0 = (20 : Int32) then
          let p17 := fnX5_jump x
          p17
         else
          if a0 = (21 : Int32) then
           if x.2.2.2.2.1.1 = (0 : Int64) then
            let p29 := fnX5_jump x
            p29
           else
            if a0 = (22 : Int32) then
             let p34 := fnX5_jump x
             p34
            else
             if a0 = (23 : Int32) then
              if (x.2.2.2.2.1.1 &&& (34359738368 : Int64)) = (0 : Int64) then
               x
              else
               let p33 := fnX5_jump x
               p33
             else
              x
          else
           if a0 = (22 : Int32) then
            if x.2.2.2.2.1.1 = (0 : Int64) then
             if a0 = (23 : Int32) then
              if (x.2.2.2.2.1.1 &&& (34359738368 : Int64)) = (0 : Int64) then
               x
              else
               let p27 := fnX5_jump x
               p27
             else
              x
            else
             let p24 := fnX5_jump x
             p24
           else
            if a0 = (23 : Int32) then
             if (x.2.2.2.2.1.1 &&& (34359738368 : Int64)) = (0 : Int64) then
              x
             else
              let p22 := fnX5_jump x
              p22
            else
             x
       else
        let p35 := fnX5_write x (((x.2.2.2.2.2.1 ((a0 &&& (3 : Int32))).toNatClampNeg)).toInt64)
        p35
      else
       let p36 := fnX5_here x
       if p36.2.2.2.2.2.2.2.2.2.2.2.2.1.1 ≤ (0 : Int32) then
        (p36.2.1, p36.2.2.1, p36.2.2.2.1, p36.2.2.2.2.1, p36.2.2.2.2.2.1, (upd p36.2.2.2.2.2.2.1 ((a0 &&& (3 : Int32))).toNatClampNeg ((p36.1).toInt32 &&& (4095 : Int32))), p36.2.2.2.2.2.2.2.1, p36.2.2.2.2.2.2.2.2.1, p36.2.2.2.2.2.2.2.2.2.1, p36.2.2.2.2.2.2.2.2.2.2.1, p36.2.2.2.2.2.2.2.2.2.2.2.1, p36.2.2.2.2.2.2.2.2.2.2.2.2.1, p36.2.2.2.2.2.2.2.2.2.2.2.2.2.1, p36.2.2.2.2.2.2.2.2.2.2.2.2.2.2.1, p36.2.2.2.2.2.2.2.2.2.2.2.2.2.2.2)
       else
        (p36.2.1, p36.2.2.1, p36.2.2.2.1, p36.2.2.2.2.1, p36.2.2.2.2.2.1, (upd p36.2.2.2.2.2.2.1 ((a0 &&& (3 : Int32))).toNatClampNeg (p36.2.2.2.2.2.2.1 ((a0 &&& (3 : Int32))).toNatClampNeg)), p36.2.2.2.2.2.2.2.1, p36.2.2.2.2.2.2.2.2.1, p36.2.2.2.2.2.2.2.2.2.1, p36.2.2.2.2.2.2.2.2.2.2.1, p36.2.2.2.2.2.2.2.2.2.2.2.1, p36.2.2.2.2.2.2.2.2.2.2.2.2.1, p36.2.2.2.2.2.2.2.2.2.2.2.2.2.1, p36.2.2.2.2.2.2.2.2.2.2.2.2.2.2.1, p36.2.2.2.2.2.2.2.2.2.2.2.2.2.2.2)
  else
   if a0 = (2 : Int32) then
    let p43 := fnX5_write x x.2.2.2.2.1.1
    p43
   else
    if a0 = (10 : Int32) then
     let p45 := fnX5_write x x.2.2.2.2.1.2
     p45
    else
     let p46 := fnX5_reckon x a0
     p46
abbrev ivX5_actP (z : TM) : Prop := iM z
set_option maxRecDepth 100000 in
set_option maxHeartbeats 4000000 in
theorem ivX5_act (x : TM) (a0 : Int32) (hI : iM x) : ivX5_actP (fnX5_act x a0) := by
  unfold fnX5_act
  try dsimp only
  refine iteI (fun h1 => ?_) (fun h1 => ?_)
  · refine iteI (fun h2 => ?_) (fun h2 => ?_)
    · have j41 : ivX5_writeP (fnX5_write x x.2.2.2.2.1.1) := ivX5_write x x.2.2.2.2.1.1 hI
      generalize fnX5_write x x.2.2.2.2.1.1 = p41 at j41 ⊢
      exact j41
    · refine iteI (fun h3 => ?_) (fun h3 => ?_)
      · have j40 : ivX5_writeP (fnX5_write x x.2.2.2.2.1.2) := ivX5_write x x.2.2.2.2.1.2 hI
        generalize fnX5_write x x.2.2.2.2.1.2 = p40 at j40 ⊢
        exact j40
      · refine iteI (fun h4 => ?_) (fun h4 => ?_)
        · have j38 : ivX5_hereP (fnX5_here x) := ivX5_here x hI
          generalize fnX5_here x = p38 at j38 ⊢
          have j39 : ivX5_writeP (fnX5_write p38.2 (p38.1 + (1 : Int64))) := ivX5_write p38.2 (p38.1 + (1 : Int64)) j38
          generalize fnX5_write p38.2 (p38.1 + (1 : Int64)) = p39 at j39 ⊢
          exact j39
        · refine iteI (fun h5 => ?_) (fun h5 => ?_)
          · refine iteI (fun h6 => ?_) (fun h6 => ?_)
            · refine iteI (fun h7 => ?_) (fun h7 => ?_)
              · refine iteI (fun h8 => ?_) (fun h8 => ?_)
                · refine iteI (fun h9 => ?_) (fun h9 => ?_)
                  · refine iteI (fun h10 => ?_) (fun h10 => ?_)
                    · exact ⟨hI.1, hI.2.1, hI.2.2.1, hI.2.2.2.1, hI.2.2.2.2.1, hI.2.2.2.2.2.1, hI.2.2.2.2.2.2.1, hI.2.2.2.2.2.2.2⟩
                    · refine iteI (fun h11 => ?_) (fun h11 => ?_)
                      · have j13 : ivX5_callP (fnX5_call x) := ivX5_call x hI
                        generalize fnX5_call x = p13 at j13 ⊢
                        exact j13
                      · have j12 : ivX5_backP (fnX5_back x) := ivX5_back x hI
                        generalize fnX5_back x = p12 at j12 ⊢
                        exact j12
                  · generalize fnX5_pointer (x.2.2.2.2.2.2.1.1 ((a0 &&& (3 : Int32))).toNatClampNeg) (x.2.2.2.2.2.2.1.2.1 ((a0 &&& (3 : Int32))).toNatClampNeg) (x.2.2.2.2.2.2.1.2.2 ((a0 &&& (3 : Int32))).toNatClampNeg) = p14
                    have j15 : ivX5_writeP (fnX5_write x p14) := ivX5_write x p14 hI
                    generalize fnX5_write x p14 = p15 at j15 ⊢
                    exact j15
                · exact ⟨hI.1, hI.2.1, ⟨(up4 hI.2.2.1.1 hI.2.2.2.2.2.2.2.1), (up12 hI.2.2.1.2 hI.2.2.2.2.2.2.2.2)⟩, hI.2.2.2.1, hI.2.2.2.2.1, hI.2.2.2.2.2.1, hI.2.2.2.2.2.2.1, hI.2.2.2.2.2.2.2⟩
              · refine iteI (fun h16 => ?_) (fun h16 => ?_)
                · have j17 : ivX5_jumpP (fnX5_jump x) := ivX5_jump x hI
                  generalize fnX5_jump x = p17 at j17 ⊢
                  exact j17
                · refine iteI (fun h18 => ?_) (fun h18 => ?_)
                  · refine iteI (fun h28 => ?_) (fun h28 => ?_)
                    · have j29 : ivX5_jumpP (fnX5_jump x) := ivX5_jump x hI
                      generalize fnX5_jump x = p29 at j29 ⊢
                      exact j29
                    · refine iteI (fun h30 => ?_) (fun h30 => ?_)
                      · have j34 : ivX5_jumpP (fnX5_jump x) := ivX5_jump x hI
                        generalize fnX5_jump x = p34 at j34 ⊢
                        exact j34
                      · refine iteI (fun h31 => ?_) (fun h31 => ?_)
                        · refine iteI (fun h32 => ?_) (fun h32 => ?_)
                          · exact hI
                          · have j33 : ivX5_jumpP (fnX5_jump x) := ivX5_jump x hI
                            generalize fnX5_jump x = p33 at j33 ⊢
                            exact j33
                        · exact hI
                  · refine iteI (fun h19 => ?_) (fun h19 => ?_)
                    · refine iteI (fun h23 => ?_) (fun h23 => ?_)
                      · refine iteI (fun h25 => ?_) (fun h25 => ?_)
                        · refine iteI (fun h26 => ?_) (fun h26 => ?_)
                          · exact hI
                          · have j27 : ivX5_jumpP (fnX5_jump x) := ivX5_jump x hI
                            generalize fnX5_jump x = p27 at j27 ⊢
                            exact j27
                        · exact hI
                      · have j24 : ivX5_jumpP (fnX5_jump x) := ivX5_jump x hI
                        generalize fnX5_jump x = p24 at j24 ⊢
                        exact j24
                    · refine iteI (fun h20 => ?_) (fun h20 => ?_)
                      · refine iteI (fun h21 => ?_) (fun h21 => ?_)
                        · exact hI
                        · have j22 : ivX5_jumpP (fnX5_jump x) := ivX5_jump x hI
                          generalize fnX5_jump x = p22 at j22 ⊢
                          exact j22
                      · exact hI
            · have j35 : ivX5_writeP (fnX5_write x (((x.2.2.2.2.2.1 ((a0 &&& (3 : Int32))).toNatClampNeg)).toInt64)) := ivX5_write x (((x.2.2.2.2.2.1 ((a0 &&& (3 : Int32))).toNatClampNeg)).toInt64) hI
              generalize fnX5_write x (((x.2.2.2.2.2.1 ((a0 &&& (3 : Int32))).toNatClampNeg)).toInt64) = p35 at j35 ⊢
              exact j35
          · have j36 : ivX5_hereP (fnX5_here x) := ivX5_here x hI
            generalize fnX5_here x = p36 at j36 ⊢
            refine iteI (fun h37 => ?_) (fun h37 => ?_)
            · exact ⟨j36.1, j36.2.1, j36.2.2.1, j36.2.2.2.1, j36.2.2.2.2.1, j36.2.2.2.2.2.1, j36.2.2.2.2.2.2.1, j36.2.2.2.2.2.2.2⟩
            · exact ⟨j36.1, j36.2.1, j36.2.2.1, j36.2.2.2.1, j36.2.2.2.2.1, j36.2.2.2.2.2.1, j36.2.2.2.2.2.2.1, j36.2.2.2.2.2.2.2⟩
  · refine iteI (fun h42 => ?_) (fun h42 => ?_)
    · have j43 : ivX5_writeP (fnX5_write x x.2.2.2.2.1.1) := ivX5_write x x.2.2.2.2.1.1 hI
      generalize fnX5_write x x.2.2.2.2.1.1 = p43 at j43 ⊢
      exact j43
    · refine iteI (fun h44 => ?_) (fun h44 => ?_)
      · have j45 : ivX5_writeP (fnX5_write x x.2.2.2.2.1.2) := ivX5_write x x.2.2.2.2.1.2 hI
        generalize fnX5_write x x.2.2.2.2.1.2 = p45 at j45 ⊢
        exact j45
      · have j46 : ivX5_reckonP (fnX5_reckon x a0) := ivX5_reckon x a0 hI
        generalize fnX5_reckon x a0 = p46 at j46 ⊢
        exact j46
set_option maxRecDepth 100000 in
set_option maxHeartbeats 4000000 in
theorem okX5_act (l : Launch) (D : va_G) (cI cJ cP : ClassId) (ad : Nat → Nat) (sz : Nat) (x : TM) (a0 : Int32) (hI : iM x) : Met l yX5_act (Cond.code yX5_act cX5_act 5 none :: gG) { frames := 6, cells := 0, slots := 0, locals := 148 } (va_Pc [.ref (ad 0), .int a0] (PRE D (tz cI cJ cP) sz (wM cI cJ ad x))) (va_Qv (fun (u : TM) => u = fnX5_act x a0) (AT D (tz cI cJ cP) (va_A (wM cI cJ ad x) sz) (fun (u : TM) => (wM cI cJ ad u))) (va_A (wM cI cJ ad x) sz)) 0 0 (va_A (wM cI cJ ad x) sz) := by
  refine mo (QA := fun A => va_Qv (fun (u : TM) => u = fnX5_act x a0) (AT D (tz cI cJ cP) A (fun (u : TM) => (wM cI cJ ad u))) A) (by decide) (Nat.le_of_ble_eq_true rfl) ?_
  intro p e s m below meth c A ls H hx hb hr hml hown hG hlocks hnm hA hS hP hK hD hl hN
  have hown : s.vm.findClass RX5 = some m.cls := hown
  have hl : lv_has ls 5 [(0, .ref (ad 0)), (1, .int a0)] := hl
  refine lv_iload_n hx hb dX5_act_0 rfl (lv_at hl 1 rfl) ?_
  refine lv_iconst (v := 3) hx hb dX5_act_1 (by decide) ?_
  refine lv_iand hx hb dX5_act_2 ?_
  refine lv_istore_n (lv' := [(2, .int ((a0 &&& (3 : Int32)))), (0, .ref (ad 0)), (1, .int (a0))]) hx hb dX5_act_3 rfl hl (by decide) rfl (fun ls hl => ?_)
  refine lv_iload_n hx hb dX5_act_4 rfl (lv_at hl 2 rfl) ?_
  refine lv_bipush (v := 11) hx hb dX5_act_5 (by decide) ?_
  refine lv_icmp_ge (tgt := 29) hx hb dX5_act_7 (by decide) (fun h1 => ?_) (fun h1 => ?_)
  · refine lv_iload_n hx hb dX5_act_29 rfl (lv_at hl 2 rfl) ?_
    refine lv_iconst (v := 2) hx hb dX5_act_30 (by decide) ?_
    refine lv_icmp_ne (tgt := 45) hx hb dX5_act_31 (by decide) (fun h2 => ?_) (fun h2 => ?_)
    · refine lv_iload_n hx hb dX5_act_45 rfl (lv_at hl 2 rfl) ?_
      refine lv_bipush (v := 10) hx hb dX5_act_46 (by decide) ?_
      refine lv_icmp_ne (tgt := 62) hx hb dX5_act_48 (by decide) (fun h3 => ?_) (fun h3 => ?_)
      · refine lv_iload_n hx hb dX5_act_62 rfl (lv_at hl 2 rfl) ?_
        refine lv_bipush (v := 11) hx hb dX5_act_63 (by decide) ?_
        refine lv_icmp_ne (tgt := 83) hx hb dX5_act_65 (by decide) (fun h4 => ?_) (fun h4 => ?_)
        · refine lv_iload_n hx hb dX5_act_83 rfl (lv_at hl 2 rfl) ?_
          refine lv_bipush (v := 16) hx hb dX5_act_84 (by decide) ?_
          refine lv_icmp_ge (tgt := 125) hx hb dX5_act_86 (by decide) (fun h5 => ?_) (fun h5 => ?_)
          · refine lv_iload_n hx hb dX5_act_125 rfl (lv_at hl 2 rfl) ?_
            refine lv_bipush (v := 20) hx hb dX5_act_126 (by decide) ?_
            refine lv_icmp_ge (tgt := 145) hx hb dX5_act_128 (by decide) (fun h6 => ?_) (fun h6 => ?_)
            · refine lv_iload_n hx hb dX5_act_145 rfl (lv_at hl 2 rfl) ?_
              refine lv_bipush (v := 24) hx hb dX5_act_146 (by decide) ?_
              refine lv_icmp_ge (tgt := 223) hx hb dX5_act_148 (by decide) (fun h7 => ?_) (fun h7 => ?_)
              · refine lv_iload_n hx hb dX5_act_223 rfl (lv_at hl 2 rfl) ?_
                refine lv_bipush (v := 28) hx hb dX5_act_224 (by decide) ?_
                refine lv_icmp_ge (tgt := 262) hx hb dX5_act_226 (by decide) (fun h8 => ?_) (fun h8 => ?_)
                · refine lv_iload_n hx hb dX5_act_262 rfl (lv_at hl 2 rfl) ?_
                  refine lv_bipush (v := 32) hx hb dX5_act_263 (by decide) ?_
                  refine lv_icmp_ge (tgt := 296) hx hb dX5_act_265 (by decide) (fun h9 => ?_) (fun h9 => ?_)
                  · refine lv_iload_n hx hb dX5_act_296 rfl (lv_at hl 2 rfl) ?_
                    refine lv_bipush (v := 32) hx hb dX5_act_297 (by decide) ?_
                    refine lv_icmp_ne (tgt := 314) hx hb dX5_act_299 (by decide) (fun h10 => ?_) (fun h10 => ?_)
                    · refine lv_iload_n hx hb dX5_act_314 rfl (lv_at hl 2 rfl) ?_
                      refine lv_bipush (v := 34) hx hb dX5_act_315 (by decide) ?_
                      refine lv_icmp_ne (tgt := 327) hx hb dX5_act_317 (by decide) (fun h11 => ?_) (fun h11 => ?_)
                      · refine lv_aload_n hx hb dX5_act_327 rfl (lv_at hl 1 rfl) ?_
                        refine kFv (As := []) (rest := []) hx hb hml hown hG hl (okX5_back l D cI cJ cP ad H.size x hI) (cV 0 hG kw316 kw317 kw318 kw319 kw238 hdX5_back ⟨by decide, by decide⟩) 0 5 rfl rfl hK hP hD hS hA hN rfl rfl (Nat.le_of_ble_eq_true rfl) dX5_act_328 ⟨Nat.zero_le _, Nat.zero_le _⟩ (fun u12 q12 H locs hP hD hS => ?_)
                        have j12 : ivX5_backP u12 := by rw [q12]; exact ivX5_back x hI
                        exact retv (u := u12) hx hb hr hlocks hK hP hD hS dX5_act_331 (by unfold fnX5_act; (try dsimp only); rw [if_pos h1]; rw [if_neg h2]; rw [if_neg h3]; rw [if_neg h4]; rw [if_pos h5]; rw [if_pos h6]; rw [if_pos h7]; rw [if_pos h8]; rw [if_pos h9]; rw [if_neg h10]; rw [if_neg h11]; rw [← q12]; (try dsimp only); (try exact rfl))
                      · refine lv_aload_n hx hb dX5_act_320 rfl (lv_at hl 1 rfl) ?_
                        refine kFv (As := []) (rest := []) hx hb hml hown hG hl (okX5_call l D cI cJ cP ad H.size x hI) (cV 0 hG kw320 kw321 kw322 kw323 kw238 hdX5_call ⟨by decide, by decide⟩) 0 5 rfl rfl hK hP hD hS hA hN rfl rfl (Nat.le_of_ble_eq_true rfl) dX5_act_321 ⟨Nat.zero_le _, Nat.zero_le _⟩ (fun u13 q13 H locs hP hD hS => ?_)
                        have j13 : ivX5_callP u13 := by rw [q13]; exact ivX5_call x hI
                        refine lv_goto (tgt := 331) hx hb dX5_act_324 (by decide) ?_
                        exact retv (u := u13) hx hb hr hlocks hK hP hD hS dX5_act_331 (by unfold fnX5_act; (try dsimp only); rw [if_pos h1]; rw [if_neg h2]; rw [if_neg h3]; rw [if_neg h4]; rw [if_pos h5]; rw [if_pos h6]; rw [if_pos h7]; rw [if_pos h8]; rw [if_pos h9]; rw [if_neg h10]; rw [if_pos h11]; rw [← q13]; (try dsimp only); (try exact rfl))
                    · refine lv_aload_n hx hb dX5_act_302 rfl (lv_at hl 1 rfl) ?_
                      refine lv_aload_n hx hb dX5_act_303 rfl (lv_at hl 1 rfl) ?_
                      refine va_get (D := D) (ci := 5) (v := .int (x.2.2.2.2.2.2.2.2.2.2.2.2.1.2.1)) hx hb hG inX5 hown hK hP 0 rfl rfl 32 (by decide) (hG _ kw286) (fun _ h9 => h9) rfl dX5_act_304 ?_
                      refine lv_i2l hx hb dX5_act_307 rfl ?_
                      refine pu (D := D) (ci := 5) (v := .long ((x.2.2.2.2.2.2.2.2.2.2.2.2.1.2.1).toInt64)) (ty := .long) (W' := (wM cI cJ ad (x.1, x.2.1, x.2.2.1, x.2.2.2.1, ((x.2.2.2.2.2.2.2.2.2.2.2.2.1.2.1).toInt64, x.2.2.2.2.1.2), x.2.2.2.2.2.1, x.2.2.2.2.2.2.1, x.2.2.2.2.2.2.2.1, x.2.2.2.2.2.2.2.2.1, x.2.2.2.2.2.2.2.2.2.1, x.2.2.2.2.2.2.2.2.2.2.1, x.2.2.2.2.2.2.2.2.2.2.2.1, x.2.2.2.2.2.2.2.2.2.2.2.2.1, x.2.2.2.2.2.2.2.2.2.2.2.2.2.1, x.2.2.2.2.2.2.2.2.2.2.2.2.2.2))) hx hb hG inX5 tyX5 tyokX5 nmX5 hown hK hP hD hS 0 rfl rfl 9 (by decide) (hG _ kw307) (fun _ h9 => h9) rfl (by decide +kernel) rfl rfl (Nat.le_of_ble_eq_true rfl) dX5_act_308 rfl (fun H locs hP hD hS => ?_)
                      refine lv_goto (tgt := 331) hx hb dX5_act_311 (by decide) ?_
                      exact retv (u := (x.1, x.2.1, x.2.2.1, x.2.2.2.1, ((x.2.2.2.2.2.2.2.2.2.2.2.2.1.2.1).toInt64, x.2.2.2.2.1.2), x.2.2.2.2.2.1, x.2.2.2.2.2.2.1, x.2.2.2.2.2.2.2.1, x.2.2.2.2.2.2.2.2.1, x.2.2.2.2.2.2.2.2.2.1, x.2.2.2.2.2.2.2.2.2.2.1, x.2.2.2.2.2.2.2.2.2.2.2.1, x.2.2.2.2.2.2.2.2.2.2.2.2.1, x.2.2.2.2.2.2.2.2.2.2.2.2.2.1, x.2.2.2.2.2.2.2.2.2.2.2.2.2.2)) hx hb hr hlocks hK hP hD hS dX5_act_331 (by unfold fnX5_act; (try dsimp only); rw [if_pos h1]; rw [if_neg h2]; rw [if_neg h3]; rw [if_neg h4]; rw [if_pos h5]; rw [if_pos h6]; rw [if_pos h7]; rw [if_pos h8]; rw [if_pos h9]; rw [if_pos h10]; (try exact rfl))
                  · refine lv_aload_n hx hb dX5_act_268 rfl (lv_at hl 1 rfl) ?_
                    refine lv_aload_n hx hb dX5_act_269 rfl (lv_at hl 1 rfl) ?_
                    refine va_get (D := D) (ci := 5) (v := .ref (ad 8)) hx hb hG inX5 hown hK hP 0 rfl rfl 12 (by decide) (hG _ kw293) (fun _ h9 => h9) rfl dX5_act_270 ?_
                    refine lv_iload_n hx hb dX5_act_273 rfl (lv_at hl 0 rfl) ?_
                    refine gi (D := D) (j := ((a0 &&& (3 : Int32))).toNatClampNeg) (f := x.2.2.2.2.2.2.1.1) hx hb hK hP 8 0 rfl rfl (in2 (mk2 _)) rfl dX5_act_274 ?_
                    refine lv_aload_n hx hb dX5_act_275 rfl (lv_at hl 1 rfl) ?_
                    refine va_get (D := D) (ci := 5) (v := .ref (ad 9)) hx hb hG inX5 hown hK hP 0 rfl rfl 13 (by decide) (hG _ kw294) (fun _ h9 => h9) rfl dX5_act_276 ?_
                    refine lv_iload_n hx hb dX5_act_279 rfl (lv_at hl 0 rfl) ?_
                    refine gi (D := D) (j := ((a0 &&& (3 : Int32))).toNatClampNeg) (f := x.2.2.2.2.2.2.1.2.1) hx hb hK hP 9 0 rfl rfl (in2 (mk2 _)) rfl dX5_act_280 ?_
                    refine lv_aload_n hx hb dX5_act_281 rfl (lv_at hl 1 rfl) ?_
                    refine va_get (D := D) (ci := 5) (v := .ref (ad 10)) hx hb hG inX5 hown hK hP 0 rfl rfl 14 (by decide) (hG _ kw295) (fun _ h9 => h9) rfl dX5_act_282 ?_
                    refine lv_iload_n hx hb dX5_act_285 rfl (lv_at hl 0 rfl) ?_
                    refine gi (D := D) (j := ((a0 &&& (3 : Int32))).toNatClampNeg) (f := x.2.2.2.2.2.2.1.2.2) hx hb hK hP 10 0 rfl rfl (in2 (mk2 _)) rfl dX5_act_286 ?_
                    refine k0Sl (As := [.int ((x.2.2.2.2.2.2.1.1 ((a0 &&& (3 : Int32))).toNatClampNeg)), .int ((x.2.2.2.2.2.2.1.2.1 ((a0 &&& (3 : Int32))).toNatClampNeg)), .int ((x.2.2.2.2.2.2.1.2.2 ((a0 &&& (3 : Int32))).toNatClampNeg))]) (rest := [.ref (ad 0)]) hx hb hml hown hG hl (okX5_pointer l D cI cJ cP  H.size (x.2.2.2.2.2.2.1.1 ((a0 &&& (3 : Int32))).toNatClampNeg) (x.2.2.2.2.2.2.1.2.1 ((a0 &&& (3 : Int32))).toNatClampNeg) (x.2.2.2.2.2.2.1.2.2 ((a0 &&& (3 : Int32))).toNatClampNeg) ) (cS 3 hG kw324 kw325 kw326 kw238 hdX5_pointer ⟨by decide, by decide⟩) hK hP hD hS hA hN rfl rfl (Nat.le_of_ble_eq_true rfl) dX5_act_287 ⟨Nat.zero_le _, Nat.zero_le _⟩ (fun r14 q14 H locs hP hD hS => ?_)
                    refine kFv (As := [.long (r14)]) (rest := []) hx hb hml hown hG hl (okX5_write l D cI cJ cP ad H.size x r14 hI) (cV 1 hG kw327 kw328 kw329 kw330 kw238 hdX5_write ⟨by decide, by decide⟩) 0 5 rfl rfl hK hP hD hS hA hN rfl rfl (Nat.le_of_ble_eq_true rfl) dX5_act_290 ⟨Nat.zero_le _, Nat.zero_le _⟩ (fun u15 q15 H locs hP hD hS => ?_)
                    have j15 : ivX5_writeP u15 := by rw [q15]; exact ivX5_write x r14 hI
                    refine lv_goto (tgt := 331) hx hb dX5_act_293 (by decide) ?_
                    exact retv (u := u15) hx hb hr hlocks hK hP hD hS dX5_act_331 (by unfold fnX5_act; (try dsimp only); rw [if_pos h1]; rw [if_neg h2]; rw [if_neg h3]; rw [if_neg h4]; rw [if_pos h5]; rw [if_pos h6]; rw [if_pos h7]; rw [if_pos h8]; rw [if_neg h9]; rw [← q14]; (try dsimp only); rw [← q15]; (try dsimp only); (try exact rfl))
                · refine lv_aload_n hx hb dX5_act_229 rfl (lv_at hl 1 rfl) ?_
                  refine va_get (D := D) (ci := 5) (v := .ref (ad 8)) hx hb hG inX5 hown hK hP 0 rfl rfl 12 (by decide) (hG _ kw293) (fun _ h9 => h9) rfl dX5_act_230 ?_
                  refine lv_iload_n hx hb dX5_act_233 rfl (lv_at hl 0 rfl) ?_
                  refine lv_aload_n hx hb dX5_act_234 rfl (lv_at hl 1 rfl) ?_
                  refine va_get (D := D) (ci := 5) (v := .int (x.2.2.2.2.2.2.2.2.2.2.2.2.1.1)) hx hb hG inX5 hown hK hP 0 rfl rfl 31 (by decide) (hG _ kw285) (fun _ h9 => h9) rfl dX5_act_235 ?_
                  refine si (D := D) (j := ((a0 &&& (3 : Int32))).toNatClampNeg) (f := x.2.2.2.2.2.2.1.1) (x := x.2.2.2.2.2.2.2.2.2.2.2.2.1.1) (W' := (wM cI cJ ad (x.1, x.2.1, x.2.2.1, x.2.2.2.1, x.2.2.2.2.1, x.2.2.2.2.2.1, ((upd x.2.2.2.2.2.2.1.1 ((a0 &&& (3 : Int32))).toNatClampNeg x.2.2.2.2.2.2.2.2.2.2.2.2.1.1), x.2.2.2.2.2.2.1.2.1, x.2.2.2.2.2.2.1.2.2), x.2.2.2.2.2.2.2.1, x.2.2.2.2.2.2.2.2.1, x.2.2.2.2.2.2.2.2.2.1, x.2.2.2.2.2.2.2.2.2.2.1, x.2.2.2.2.2.2.2.2.2.2.2.1, x.2.2.2.2.2.2.2.2.2.2.2.2.1, x.2.2.2.2.2.2.2.2.2.2.2.2.2.1, x.2.2.2.2.2.2.2.2.2.2.2.2.2.2))) hx hb hK hP hD hS 8 0 rfl rfl (in2 (mk2 _)) rfl dX5_act_238 rfl (fun H locs hP hD hS => ?_)
                  refine lv_aload_n hx hb dX5_act_239 rfl (lv_at hl 1 rfl) ?_
                  refine va_get (D := D) (ci := 5) (v := .ref (ad 9)) hx hb hG inX5 hown hK hP 0 rfl rfl 13 (by decide) (hG _ kw294) (fun _ h9 => h9) rfl dX5_act_240 ?_
                  refine lv_iload_n hx hb dX5_act_243 rfl (lv_at hl 0 rfl) ?_
                  refine lv_aload_n hx hb dX5_act_244 rfl (lv_at hl 1 rfl) ?_
                  refine va_get (D := D) (ci := 5) (v := .int (x.2.2.2.2.2.2.2.2.2.2.2.2.1.2.1)) hx hb hG inX5 hown hK hP 0 rfl rfl 32 (by decide) (hG _ kw286) (fun _ h9 => h9) rfl dX5_act_245 ?_
                  refine si (D := D) (j := ((a0 &&& (3 : Int32))).toNatClampNeg) (f := x.2.2.2.2.2.2.1.2.1) (x := x.2.2.2.2.2.2.2.2.2.2.2.2.1.2.1) (W' := (wM cI cJ ad (x.1, x.2.1, x.2.2.1, x.2.2.2.1, x.2.2.2.2.1, x.2.2.2.2.2.1, ((upd x.2.2.2.2.2.2.1.1 ((a0 &&& (3 : Int32))).toNatClampNeg x.2.2.2.2.2.2.2.2.2.2.2.2.1.1), (upd x.2.2.2.2.2.2.1.2.1 ((a0 &&& (3 : Int32))).toNatClampNeg x.2.2.2.2.2.2.2.2.2.2.2.2.1.2.1), x.2.2.2.2.2.2.1.2.2), x.2.2.2.2.2.2.2.1, x.2.2.2.2.2.2.2.2.1, x.2.2.2.2.2.2.2.2.2.1, x.2.2.2.2.2.2.2.2.2.2.1, x.2.2.2.2.2.2.2.2.2.2.2.1, x.2.2.2.2.2.2.2.2.2.2.2.2.1, x.2.2.2.2.2.2.2.2.2.2.2.2.2.1, x.2.2.2.2.2.2.2.2.2.2.2.2.2.2))) hx hb hK hP hD hS 9 0 rfl rfl (in2 (mk2 _)) rfl dX5_act_248 rfl (fun H locs hP hD hS => ?_)
                  refine lv_aload_n hx hb dX5_act_249 rfl (lv_at hl 1 rfl) ?_
                  refine va_get (D := D) (ci := 5) (v := .ref (ad 10)) hx hb hG inX5 hown hK hP 0 rfl rfl 14 (by decide) (hG _ kw295) (fun _ h9 => h9) rfl dX5_act_250 ?_
                  refine lv_iload_n hx hb dX5_act_253 rfl (lv_at hl 0 rfl) ?_
                  refine lv_aload_n hx hb dX5_act_254 rfl (lv_at hl 1 rfl) ?_
                  refine va_get (D := D) (ci := 5) (v := .int (x.2.2.2.2.2.2.2.2.2.2.2.2.1.2.2)) hx hb hG inX5 hown hK hP 0 rfl rfl 33 (by decide) (hG _ kw287) (fun _ h9 => h9) rfl dX5_act_255 ?_
                  refine si (D := D) (j := ((a0 &&& (3 : Int32))).toNatClampNeg) (f := x.2.2.2.2.2.2.1.2.2) (x := x.2.2.2.2.2.2.2.2.2.2.2.2.1.2.2) (W' := (wM cI cJ ad (x.1, x.2.1, x.2.2.1, x.2.2.2.1, x.2.2.2.2.1, x.2.2.2.2.2.1, ((upd x.2.2.2.2.2.2.1.1 ((a0 &&& (3 : Int32))).toNatClampNeg x.2.2.2.2.2.2.2.2.2.2.2.2.1.1), (upd x.2.2.2.2.2.2.1.2.1 ((a0 &&& (3 : Int32))).toNatClampNeg x.2.2.2.2.2.2.2.2.2.2.2.2.1.2.1), (upd x.2.2.2.2.2.2.1.2.2 ((a0 &&& (3 : Int32))).toNatClampNeg x.2.2.2.2.2.2.2.2.2.2.2.2.1.2.2)), x.2.2.2.2.2.2.2.1, x.2.2.2.2.2.2.2.2.1, x.2.2.2.2.2.2.2.2.2.1, x.2.2.2.2.2.2.2.2.2.2.1, x.2.2.2.2.2.2.2.2.2.2.2.1, x.2.2.2.2.2.2.2.2.2.2.2.2.1, x.2.2.2.2.2.2.2.2.2.2.2.2.2.1, x.2.2.2.2.2.2.2.2.2.2.2.2.2.2))) hx hb hK hP hD hS 10 0 rfl rfl (in2 (mk2 _)) rfl dX5_act_258 rfl (fun H locs hP hD hS => ?_)
                  refine lv_goto (tgt := 331) hx hb dX5_act_259 (by decide) ?_
                  exact retv (u := (x.1, x.2.1, x.2.2.1, x.2.2.2.1, x.2.2.2.2.1, x.2.2.2.2.2.1, ((upd x.2.2.2.2.2.2.1.1 ((a0 &&& (3 : Int32))).toNatClampNeg x.2.2.2.2.2.2.2.2.2.2.2.2.1.1), (upd x.2.2.2.2.2.2.1.2.1 ((a0 &&& (3 : Int32))).toNatClampNeg x.2.2.2.2.2.2.2.2.2.2.2.2.1.2.1), (upd x.2.2.2.2.2.2.1.2.2 ((a0 &&& (3 : Int32))).toNatClampNeg x.2.2.2.2.2.2.2.2.2.2.2.2.1.2.2)), x.2.2.2.2.2.2.2.1, x.2.2.2.2.2.2.2.2.1, x.2.2.2.2.2.2.2.2.2.1, x.2.2.2.2.2.2.2.2.2.2.1, x.2.2.2.2.2.2.2.2.2.2.2.1, x.2.2.2.2.2.2.2.2.2.2.2.2.1, x.2.2.2.2.2.2.2.2.2.2.2.2.2.1, x.2.2.2.2.2.2.2.2.2.2.2.2.2.2)) hx hb hr hlocks hK hP hD hS dX5_act_331 (by unfold fnX5_act; (try dsimp only); rw [if_pos h1]; rw [if_neg h2]; rw [if_neg h3]; rw [if_neg h4]; rw [if_pos h5]; rw [if_pos h6]; rw [if_pos h7]; rw [if_neg h8]; (try exact rfl))
              · refine lv_iload_n hx hb dX5_act_151 rfl (lv_at hl 2 rfl) ?_
                refine lv_bipush (v := 20) hx hb dX5_act_152 (by decide) ?_
                refine lv_icmp_eq (tgt := 206) hx hb dX5_act_154 (by decide) (fun h16 => ?_) (fun h16 => ?_)
                · refine lv_iconst (v := 1) hx hb dX5_act_206 (by decide) ?_
                  refine lv_goto (tgt := 211) hx hb dX5_act_207 (by decide) ?_
                  refine lv_istore_n (lv' := [(3, .int ((1 : Int32))), (2, .int ((a0 &&& (3 : Int32)))), (0, .ref (ad 0)), (1, .int (a0))]) hx hb dX5_act_211 rfl hl (by decide) rfl (fun ls hl => ?_)
                  refine lv_iload_n hx hb dX5_act_212 rfl (lv_at hl 0 rfl) ?_
                  refine lv_if_eq (tgt := 220) hx hb dX5_act_213 (by decide) (fun h9 => absurd h9 (by decide)) (fun _ => ?_)
                  refine lv_aload_n hx hb dX5_act_216 rfl (lv_at hl 2 rfl) ?_
                  refine kFv (As := []) (rest := []) hx hb hml hown hG hl (okX5_jump l D cI cJ cP ad H.size x hI) (cV 0 hG kw331 kw332 kw333 kw334 kw238 hdX5_jump ⟨by decide, by decide⟩) 0 5 rfl rfl hK hP hD hS hA hN rfl rfl (Nat.le_of_ble_eq_true rfl) dX5_act_217 ⟨Nat.zero_le _, Nat.zero_le _⟩ (fun u17 q17 H locs hP hD hS => ?_)
                  have j17 : ivX5_jumpP u17 := by rw [q17]; exact ivX5_jump x hI
                  refine lv_goto (tgt := 331) hx hb dX5_act_220 (by decide) ?_
                  exact retv (u := u17) hx hb hr hlocks hK hP hD hS dX5_act_331 (by unfold fnX5_act; (try dsimp only); rw [if_pos h1]; rw [if_neg h2]; rw [if_neg h3]; rw [if_neg h4]; rw [if_pos h5]; rw [if_pos h6]; rw [if_neg h7]; rw [if_pos h16]; rw [← q17]; (try dsimp only); (try exact rfl))
                · refine lv_iload_n hx hb dX5_act_157 rfl (lv_at hl 2 rfl) ?_
                  refine lv_bipush (v := 21) hx hb dX5_act_158 (by decide) ?_
                  refine lv_icmp_ne (tgt := 172) hx hb dX5_act_160 (by decide) (fun h18 => ?_) (fun h18 => ?_)
                  · refine lv_iload_n hx hb dX5_act_172 rfl (lv_at hl 2 rfl) ?_
                    refine lv_bipush (v := 22) hx hb dX5_act_173 (by decide) ?_
                    refine lv_icmp_ne (tgt := 187) hx hb dX5_act_175 (by decide) (fun h19 => ?_) (fun h19 => ?_)
                    · refine lv_iload_n hx hb dX5_act_187 rfl (lv_at hl 2 rfl) ?_
                      refine lv_bipush (v := 23) hx hb dX5_act_188 (by decide) ?_
                      refine lv_icmp_ne (tgt := 210) hx hb dX5_act_190 (by decide) (fun h20 => ?_) (fun h20 => ?_)
                      · refine lv_iconst (v := 0) hx hb dX5_act_210 (by decide) ?_
                        refine lv_istore_n (lv' := [(3, .int ((0 : Int32))), (2, .int ((a0 &&& (3 : Int32)))), (0, .ref (ad 0)), (1, .int (a0))]) hx hb dX5_act_211 rfl hl (by decide) rfl (fun ls hl => ?_)
                        refine lv_iload_n hx hb dX5_act_212 rfl (lv_at hl 0 rfl) ?_
                        refine lv_if_eq (tgt := 220) hx hb dX5_act_213 (by decide) (fun _ => ?_) (fun h9 => absurd (by decide) h9)
                        refine lv_goto (tgt := 331) hx hb dX5_act_220 (by decide) ?_
                        exact retv (u := x) hx hb hr hlocks hK hP hD hS dX5_act_331 (by unfold fnX5_act; (try dsimp only); rw [if_pos h1]; rw [if_neg h2]; rw [if_neg h3]; rw [if_neg h4]; rw [if_pos h5]; rw [if_pos h6]; rw [if_neg h7]; rw [if_neg h16]; rw [if_neg h18]; rw [if_neg h19]; rw [if_neg h20]; (try exact rfl))
                      · refine lv_aload_n hx hb dX5_act_193 rfl (lv_at hl 1 rfl) ?_
                        refine va_get (D := D) (ci := 5) (v := .long (x.2.2.2.2.1.1)) hx hb hG inX5 hown hK hP 0 rfl rfl 9 (by decide) (hG _ kw307) (fun _ h9 => h9) rfl dX5_act_194 ?_
                        refine lv_ldc2 (v := 34359738368) hx hb hown (hG _ kw236) dX5_act_197 ?_
                        refine lv_land hx hb dX5_act_200 ?_
                        refine lv_lconst (v := 0) hx hb dX5_act_201 (by decide) ?_
                        refine lq_eq (tgt := 210) hx hb dX5_act_202 dX5_act_203 (by decide) (fun h21 => ?_) (fun h21 => ?_)
                        · refine lv_iconst (v := 0) hx hb dX5_act_210 (by decide) ?_
                          refine lv_istore_n (lv' := [(3, .int ((0 : Int32))), (2, .int ((a0 &&& (3 : Int32)))), (0, .ref (ad 0)), (1, .int (a0))]) hx hb dX5_act_211 rfl hl (by decide) rfl (fun ls hl => ?_)
                          refine lv_iload_n hx hb dX5_act_212 rfl (lv_at hl 0 rfl) ?_
                          refine lv_if_eq (tgt := 220) hx hb dX5_act_213 (by decide) (fun _ => ?_) (fun h9 => absurd (by decide) h9)
                          refine lv_goto (tgt := 331) hx hb dX5_act_220 (by decide) ?_
                          exact retv (u := x) hx hb hr hlocks hK hP hD hS dX5_act_331 (by unfold fnX5_act; (try dsimp only); rw [if_pos h1]; rw [if_neg h2]; rw [if_neg h3]; rw [if_neg h4]; rw [if_pos h5]; rw [if_pos h6]; rw [if_neg h7]; rw [if_neg h16]; rw [if_neg h18]; rw [if_neg h19]; rw [if_pos h20]; rw [if_pos h21]; (try exact rfl))
                        · refine lv_iconst (v := 1) hx hb dX5_act_206 (by decide) ?_
                          refine lv_goto (tgt := 211) hx hb dX5_act_207 (by decide) ?_
                          refine lv_istore_n (lv' := [(3, .int ((1 : Int32))), (2, .int ((a0 &&& (3 : Int32)))), (0, .ref (ad 0)), (1, .int (a0))]) hx hb dX5_act_211 rfl hl (by decide) rfl (fun ls hl => ?_)
                          refine lv_iload_n hx hb dX5_act_212 rfl (lv_at hl 0 rfl) ?_
                          refine lv_if_eq (tgt := 220) hx hb dX5_act_213 (by decide) (fun h9 => absurd h9 (by decide)) (fun _ => ?_)
                          refine lv_aload_n hx hb dX5_act_216 rfl (lv_at hl 2 rfl) ?_
                          refine kFv (As := []) (rest := []) hx hb hml hown hG hl (okX5_jump l D cI cJ cP ad H.size x hI) (cV 0 hG kw331 kw332 kw333 kw334 kw238 hdX5_jump ⟨by decide, by decide⟩) 0 5 rfl rfl hK hP hD hS hA hN rfl rfl (Nat.le_of_ble_eq_true rfl) dX5_act_217 ⟨Nat.zero_le _, Nat.zero_le _⟩ (fun u22 q22 H locs hP hD hS => ?_)
                          have j22 : ivX5_jumpP u22 := by rw [q22]; exact ivX5_jump x hI
                          refine lv_goto (tgt := 331) hx hb dX5_act_220 (by decide) ?_
                          exact retv (u := u22) hx hb hr hlocks hK hP hD hS dX5_act_331 (by unfold fnX5_act; (try dsimp only); rw [if_pos h1]; rw [if_neg h2]; rw [if_neg h3]; rw [if_neg h4]; rw [if_pos h5]; rw [if_pos h6]; rw [if_neg h7]; rw [if_neg h16]; rw [if_neg h18]; rw [if_neg h19]; rw [if_pos h20]; rw [if_neg h21]; rw [← q22]; (try dsimp only); (try exact rfl))
                    · refine lv_aload_n hx hb dX5_act_178 rfl (lv_at hl 1 rfl) ?_
                      refine va_get (D := D) (ci := 5) (v := .long (x.2.2.2.2.1.1)) hx hb hG inX5 hown hK hP 0 rfl rfl 9 (by decide) (hG _ kw307) (fun _ h9 => h9) rfl dX5_act_179 ?_
                      refine lv_lconst (v := 0) hx hb dX5_act_182 (by decide) ?_
                      refine lq_ne (tgt := 206) hx hb dX5_act_183 dX5_act_184 (by decide) (fun h23 => ?_) (fun h23 => ?_)
                      · refine lv_iconst (v := 1) hx hb dX5_act_206 (by decide) ?_
                        refine lv_goto (tgt := 211) hx hb dX5_act_207 (by decide) ?_
                        refine lv_istore_n (lv' := [(3, .int ((1 : Int32))), (2, .int ((a0 &&& (3 : Int32)))), (0, .ref (ad 0)), (1, .int (a0))]) hx hb dX5_act_211 rfl hl (by decide) rfl (fun ls hl => ?_)
                        refine lv_iload_n hx hb dX5_act_212 rfl (lv_at hl 0 rfl) ?_
                        refine lv_if_eq (tgt := 220) hx hb dX5_act_213 (by decide) (fun h9 => absurd h9 (by decide)) (fun _ => ?_)
                        refine lv_aload_n hx hb dX5_act_216 rfl (lv_at hl 2 rfl) ?_
                        refine kFv (As := []) (rest := []) hx hb hml hown hG hl (okX5_jump l D cI cJ cP ad H.size x hI) (cV 0 hG kw331 kw332 kw333 kw334 kw238 hdX5_jump ⟨by decide, by decide⟩) 0 5 rfl rfl hK hP hD hS hA hN rfl rfl (Nat.le_of_ble_eq_true rfl) dX5_act_217 ⟨Nat.zero_le _, Nat.zero_le _⟩ (fun u24 q24 H locs hP hD hS => ?_)
                        have j24 : ivX5_jumpP u24 := by rw [q24]; exact ivX5_jump x hI
                        refine lv_goto (tgt := 331) hx hb dX5_act_220 (by decide) ?_
                        exact retv (u := u24) hx hb hr hlocks hK hP hD hS dX5_act_331 (by unfold fnX5_act; (try dsimp only); rw [if_pos h1]; rw [if_neg h2]; rw [if_neg h3]; rw [if_neg h4]; rw [if_pos h5]; rw [if_pos h6]; rw [if_neg h7]; rw [if_neg h16]; rw [if_neg h18]; rw [if_pos h19]; rw [if_neg h23]; rw [← q24]; (try dsimp only); (try exact rfl))
                      · refine lv_iload_n hx hb dX5_act_187 rfl (lv_at hl 2 rfl) ?_
                        refine lv_bipush (v := 23) hx hb dX5_act_188 (by decide) ?_
                        refine lv_icmp_ne (tgt := 210) hx hb dX5_act_190 (by decide) (fun h25 => ?_) (fun h25 => ?_)
                        · refine lv_iconst (v := 0) hx hb dX5_act_210 (by decide) ?_
                          refine lv_istore_n (lv' := [(3, .int ((0 : Int32))), (2, .int ((a0 &&& (3 : Int32)))), (0, .ref (ad 0)), (1, .int (a0))]) hx hb dX5_act_211 rfl hl (by decide) rfl (fun ls hl => ?_)
                          refine lv_iload_n hx hb dX5_act_212 rfl (lv_at hl 0 rfl) ?_
                          refine lv_if_eq (tgt := 220) hx hb dX5_act_213 (by decide) (fun _ => ?_) (fun h9 => absurd (by decide) h9)
                          refine lv_goto (tgt := 331) hx hb dX5_act_220 (by decide) ?_
                          exact retv (u := x) hx hb hr hlocks hK hP hD hS dX5_act_331 (by unfold fnX5_act; (try dsimp only); rw [if_pos h1]; rw [if_neg h2]; rw [if_neg h3]; rw [if_neg h4]; rw [if_pos h5]; rw [if_pos h6]; rw [if_neg h7]; rw [if_neg h16]; rw [if_neg h18]; rw [if_pos h19]; rw [if_pos h23]; rw [if_neg h25]; (try exact rfl))
                        · refine lv_aload_n hx hb dX5_act_193 rfl (lv_at hl 1 rfl) ?_
                          refine va_get (D := D) (ci := 5) (v := .long (x.2.2.2.2.1.1)) hx hb hG inX5 hown hK hP 0 rfl rfl 9 (by decide) (hG _ kw307) (fun _ h9 => h9) rfl dX5_act_194 ?_
                          refine lv_ldc2 (v := 34359738368) hx hb hown (hG _ kw236) dX5_act_197 ?_
                          refine lv_land hx hb dX5_act_200 ?_
                          refine lv_lconst (v := 0) hx hb dX5_act_201 (by decide) ?_
                          refine lq_eq (tgt := 210) hx hb dX5_act_202 dX5_act_203 (by decide) (fun h26 => ?_) (fun h26 => ?_)
                          · refine lv_iconst (v := 0) hx hb dX5_act_210 (by decide) ?_
                            refine lv_istore_n (lv' := [(3, .int ((0 : Int32))), (2, .int ((a0 &&& (3 : Int32)))), (0, .ref (ad 0)), (1, .int (a0))]) hx hb dX5_act_211 rfl hl (by decide) rfl (fun ls hl => ?_)
                            refine lv_iload_n hx hb dX5_act_212 rfl (lv_at hl 0 rfl) ?_
                            refine lv_if_eq (tgt := 220) hx hb dX5_act_213 (by decide) (fun _ => ?_) (fun h9 => absurd (by decide) h9)
                            refine lv_goto (tgt := 331) hx hb dX5_act_220 (by decide) ?_
                            exact retv (u := x) hx hb hr hlocks hK hP hD hS dX5_act_331 (by unfold fnX5_act; (try dsimp only); rw [if_pos h1]; rw [if_neg h2]; rw [if_neg h3]; rw [if_neg h4]; rw [if_pos h5]; rw [if_pos h6]; rw [if_neg h7]; rw [if_neg h16]; rw [if_neg h18]; rw [if_pos h19]; rw [if_pos h23]; rw [if_pos h25]; rw [if_pos h26]; (try exact rfl))
                          · refine lv_iconst (v := 1) hx hb dX5_act_206 (by decide) ?_
                            refine lv_goto (tgt := 211) hx hb dX5_act_207 (by decide) ?_
                            refine lv_istore_n (lv' := [(3, .int ((1 : Int32))), (2, .int ((a0 &&& (3 : Int32)))), (0, .ref (ad 0)), (1, .int (a0))]) hx hb dX5_act_211 rfl hl (by decide) rfl (fun ls hl => ?_)
                            refine lv_iload_n hx hb dX5_act_212 rfl (lv_at hl 0 rfl) ?_
                            refine lv_if_eq (tgt := 220) hx hb dX5_act_213 (by decide) (fun h9 => absurd h9 (by decide)) (fun _ => ?_)
                            refine lv_aload_n hx hb dX5_act_216 rfl (lv_at hl 2 rfl) ?_
                            refine kFv (As := []) (rest := []) hx hb hml hown hG hl (okX5_jump l D cI cJ cP ad H.size x hI) (cV 0 hG kw331 kw332 kw333 kw334 kw238 hdX5_jump ⟨by decide, by decide⟩) 0 5 rfl rfl hK hP hD hS hA hN rfl rfl (Nat.le_of_ble_eq_true rfl) dX5_act_217 ⟨Nat.zero_le _, Nat.zero_le _⟩ (fun u27 q27 H locs hP hD hS => ?_)
                            have j27 : ivX5_jumpP u27 := by rw [q27]; exact ivX5_jump x hI
                            refine lv_goto (tgt := 331) hx hb dX5_act_220 (by decide) ?_
                            exact retv (u := u27) hx hb hr hlocks hK hP hD hS dX5_act_331 (by unfold fnX5_act; (try dsimp only); rw [if_pos h1]; rw [if_neg h2]; rw [if_neg h3]; rw [if_neg h4]; rw [if_pos h5]; rw [if_pos h6]; rw [if_neg h7]; rw [if_neg h16]; rw [if_neg h18]; rw [if_pos h19]; rw [if_pos h23]; rw [if_pos h25]; rw [if_neg h26]; rw [← q27]; (try dsimp only); (try exact rfl))
                  · refine lv_aload_n hx hb dX5_act_163 rfl (lv_at hl 1 rfl) ?_
                    refine va_get (D := D) (ci := 5) (v := .long (x.2.2.2.2.1.1)) hx hb hG inX5 hown hK hP 0 rfl rfl 9 (by decide) (hG _ kw307) (fun _ h9 => h9) rfl dX5_act_164 ?_
                    refine lv_lconst (v := 0) hx hb dX5_act_167 (by decide) ?_
                    refine lq_eq (tgt := 206) hx hb dX5_act_168 dX5_act_169 (by decide) (fun h28 => ?_) (fun h28 => ?_)
                    · refine lv_iconst (v := 1) hx hb dX5_act_206 (by decide) ?_
                      refine lv_goto (tgt := 211) hx hb dX5_act_207 (by decide) ?_
                      refine lv_istore_n (lv' := [(3, .int ((1 : Int32))), (2, .int ((a0 &&& (3 : Int32)))), (0, .ref (ad 0)), (1, .int (a0))]) hx hb dX5_act_211 rfl hl (by decide) rfl (fun ls hl => ?_)
                      refine lv_iload_n hx hb dX5_act_212 rfl (lv_at hl 0 rfl) ?_
                      refine lv_if_eq (tgt := 220) hx hb dX5_act_213 (by decide) (fun h9 => absurd h9 (by decide)) (fun _ => ?_)
                      refine lv_aload_n hx hb dX5_act_216 rfl (lv_at hl 2 rfl) ?_
                      refine kFv (As := []) (rest := []) hx hb hml hown hG hl (okX5_jump l D cI cJ cP ad H.size x hI) (cV 0 hG kw331 kw332 kw333 kw334 kw238 hdX5_jump ⟨by decide, by decide⟩) 0 5 rfl rfl hK hP hD hS hA hN rfl rfl (Nat.le_of_ble_eq_true rfl) dX5_act_217 ⟨Nat.zero_le _, Nat.zero_le _⟩ (fun u29 q29 H locs hP hD hS => ?_)
                      have j29 : ivX5_jumpP u29 := by rw [q29]; exact ivX5_jump x hI
                      refine lv_goto (tgt := 331) hx hb dX5_act_220 (by decide) ?_
                      exact retv (u := u29) hx hb hr hlocks hK hP hD hS dX5_act_331 (by unfold fnX5_act; (try dsimp only); rw [if_pos h1]; rw [if_neg h2]; rw [if_neg h3]; rw [if_neg h4]; rw [if_pos h5]; rw [if_pos h6]; rw [if_neg h7]; rw [if_neg h16]; rw [if_pos h18]; rw [if_pos h28]; rw [← q29]; (try dsimp only); (try exact rfl))
                    · refine lv_iload_n hx hb dX5_act_172 rfl (lv_at hl 2 rfl) ?_
                      refine lv_bipush (v := 22) hx hb dX5_act_173 (by decide) ?_
                      refine lv_icmp_ne (tgt := 187) hx hb dX5_act_175 (by decide) (fun h30 => ?_) (fun h30 => ?_)
                      · refine lv_iload_n hx hb dX5_act_187 rfl (lv_at hl 2 rfl) ?_
                        refine lv_bipush (v := 23) hx hb dX5_act_188 (by decide) ?_
                        refine lv_icmp_ne (tgt := 210) hx hb dX5_act_190 (by decide) (fun h31 => ?_) (fun h31 => ?_)
                        · refine lv_iconst (v := 0) hx hb dX5_act_210 (by decide) ?_
                          refine lv_istore_n (lv' := [(3, .int ((0 : Int32))), (2, .int ((a0 &&& (3 : Int32)))), (0, .ref (ad 0)), (1, .int (a0))]) hx hb dX5_act_211 rfl hl (by decide) rfl (fun ls hl => ?_)
                          refine lv_iload_n hx hb dX5_act_212 rfl (lv_at hl 0 rfl) ?_
                          refine lv_if_eq (tgt := 220) hx hb dX5_act_213 (by decide) (fun _ => ?_) (fun h9 => absurd (by decide) h9)
                          refine lv_goto (tgt := 331) hx hb dX5_act_220 (by decide) ?_
                          exact retv (u := x) hx hb hr hlocks hK hP hD hS dX5_act_331 (by unfold fnX5_act; (try dsimp only); rw [if_pos h1]; rw [if_neg h2]; rw [if_neg h3]; rw [if_neg h4]; rw [if_pos h5]; rw [if_pos h6]; rw [if_neg h7]; rw [if_neg h16]; rw [if_pos h18]; rw [if_neg h28]; rw [if_neg h30]; rw [if_neg h31]; (try exact rfl))
                        · refine lv_aload_n hx hb dX5_act_193 rfl (lv_at hl 1 rfl) ?_
                          refine va_get (D := D) (ci := 5) (v := .long (x.2.2.2.2.1.1)) hx hb hG inX5 hown hK hP 0 rfl rfl 9 (by decide) (hG _ kw307) (fun _ h9 => h9) rfl dX5_act_194 ?_
                          refine lv_ldc2 (v := 34359738368) hx hb hown (hG _ kw236) dX5_act_197 ?_
                          refine lv_land hx hb dX5_act_200 ?_
                          refine lv_lconst (v := 0) hx hb dX5_act_201 (by decide) ?_
                          refine lq_eq (tgt := 210) hx hb dX5_act_202 dX5_act_203 (by decide) (fun h32 => ?_) (fun h32 => ?_)
                          · refine lv_iconst (v := 0) hx hb dX5_act_210 (by decide) ?_
                            refine lv_istore_n (lv' := [(3, .int ((0 : Int32))), (2, .int ((a0 &&& (3 : Int32)))), (0, .ref (ad 0)), (1, .int (a0))]) hx hb dX5_act_211 rfl hl (by decide) rfl (fun ls hl => ?_)
                            refine lv_iload_n hx hb dX5_act_212 rfl (lv_at hl 0 rfl) ?_
                            refine lv_if_eq (tgt := 220) hx hb dX5_act_213 (by decide) (fun _ => ?_) (fun h9 => absurd (by decide) h9)
                            refine lv_goto (tgt := 331) hx hb dX5_act_220 (by decide) ?_
                            exact retv (u := x) hx hb hr hlocks hK hP hD hS dX5_act_331 (by unfold fnX5_act; (try dsimp only); rw [if_pos h1]; rw [if_neg h2]; rw [if_neg h3]; rw [if_neg h4]; rw [if_pos h5]; rw [if_pos h6]; rw [if_neg h7]; rw [if_neg h16]; rw [if_pos h18]; rw [if_neg h28]; rw [if_neg h30]; rw [if_pos h31]; rw [if_pos h32]; (try exact rfl))
                          · refine lv_iconst (v := 1) hx hb dX5_act_206 (by decide) ?_
                            refine lv_goto (tgt := 211) hx hb dX5_act_207 (by decide) ?_
                            refine lv_istore_n (lv' := [(3, .int ((1 : Int32))), (2, .int ((a0 &&& (3 : Int32)))), (0, .ref (ad 0)), (1, .int (a0))]) hx hb dX5_act_211 rfl hl (by decide) rfl (fun ls hl => ?_)
                            refine lv_iload_n hx hb dX5_act_212 rfl (lv_at hl 0 rfl) ?_
                            refine lv_if_eq (tgt := 220) hx hb dX5_act_213 (by decide) (fun h9 => absurd h9 (by decide)) (fun _ => ?_)
                            refine lv_aload_n hx hb dX5_act_216 rfl (lv_at hl 2 rfl) ?_
                            refine kFv (As := []) (rest := []) hx hb hml hown hG hl (okX5_jump l D cI cJ cP ad H.size x hI) (cV 0 hG kw331 kw332 kw333 kw334 kw238 hdX5_jump ⟨by decide, by decide⟩) 0 5 rfl rfl hK hP hD hS hA hN rfl rfl (Nat.le_of_ble_eq_true rfl) dX5_act_217 ⟨Nat.zero_le _, Nat.zero_le _⟩ (fun u33 q33 H locs hP hD hS => ?_)
                            have j33 : ivX5_jumpP u33 := by rw [q33]; exact ivX5_jump x hI
                            refine lv_goto (tgt := 331) hx hb dX5_act_220 (by decide) ?_
                            exact retv (u := u33) hx hb hr hlocks hK hP hD hS dX5_act_331 (by unfold fnX5_act; (try dsimp only); rw [if_pos h1]; rw [if_neg h2]; rw [if_neg h3]; rw [if_neg h4]; rw [if_pos h5]; rw [if_pos h6]; rw [if_neg h7]; rw [if_neg h16]; rw [if_pos h18]; rw [if_neg h28]; rw [if_neg h30]; rw [if_pos h31]; rw [if_neg h32]; rw [← q33]; (try dsimp only); (try exact rfl))
                      · refine lv_aload_n hx hb dX5_act_178 rfl (lv_at hl 1 rfl) ?_
                        refine va_get (D := D) (ci := 5) (v := .long (x.2.2.2.2.1.1)) hx hb hG inX5 hown hK hP 0 rfl rfl 9 (by decide) (hG _ kw307) (fun _ h9 => h9) rfl dX5_act_179 ?_
                        refine lv_lconst (v := 0) hx hb dX5_act_182 (by decide) ?_
                        refine lq_ne (tgt := 206) hx hb dX5_act_183 dX5_act_184 (by decide) (fun _ => ?_) (fun h9 => absurd h9 h28)
                        refine lv_iconst (v := 1) hx hb dX5_act_206 (by decide) ?_
                        refine lv_goto (tgt := 211) hx hb dX5_act_207 (by decide) ?_
                        refine lv_istore_n (lv' := [(3, .int ((1 : Int32))), (2, .int ((a0 &&& (3 : Int32)))), (0, .ref (ad 0)), (1, .int (a0))]) hx hb dX5_act_211 rfl hl (by decide) rfl (fun ls hl => ?_)
                        refine lv_iload_n hx hb dX5_act_212 rfl (lv_at hl 0 rfl) ?_
                        refine lv_if_eq (tgt := 220) hx hb dX5_act_213 (by decide) (fun h9 => absurd h9 (by decide)) (fun _ => ?_)
                        refine lv_aload_n hx hb dX5_act_216 rfl (lv_at hl 2 rfl) ?_
                        refine kFv (As := []) (rest := []) hx hb hml hown hG hl (okX5_jump l D cI cJ cP ad H.size x hI) (cV 0 hG kw331 kw332 kw333 kw334 kw238 hdX5_jump ⟨by decide, by decide⟩) 0 5 rfl rfl hK hP hD hS hA hN rfl rfl (Nat.le_of_ble_eq_true rfl) dX5_act_217 ⟨Nat.zero_le _, Nat.zero_le _⟩ (fun u34 q34 H locs hP hD hS => ?_)
                        have j34 : ivX5_jumpP u34 := by rw [q34]; exact ivX5_jump x hI
                        refine lv_goto (tgt := 331) hx hb dX5_act_220 (by decide) ?_
                        exact retv (u := u34) hx hb hr hlocks hK hP hD hS dX5_act_331 (by unfold fnX5_act; (try dsimp only); rw [if_pos h1]; rw [if_neg h2]; rw [if_neg h3]; rw [if_neg h4]; rw [if_pos h5]; rw [if_pos h6]; rw [if_neg h7]; rw [if_neg h16]; rw [if_pos h18]; rw [if_neg h28]; rw [if_pos h30]; rw [← q34]; (try dsimp only); (try exact rfl))
            · refine lv_aload_n hx hb dX5_act_131 rfl (lv_at hl 1 rfl) ?_
              refine lv_aload_n hx hb dX5_act_132 rfl (lv_at hl 1 rfl) ?_
              refine va_get (D := D) (ci := 5) (v := .ref (ad 7)) hx hb hG inX5 hown hK hP 0 rfl rfl 11 (by decide) (hG _ kw335) (fun _ h9 => h9) rfl dX5_act_133 ?_
              refine lv_iload_n hx hb dX5_act_136 rfl (lv_at hl 0 rfl) ?_
              refine gi (D := D) (j := ((a0 &&& (3 : Int32))).toNatClampNeg) (f := x.2.2.2.2.2.1) hx hb hK hP 7 0 rfl rfl (in2 (mk2 _)) rfl dX5_act_137 ?_
              refine lv_i2l hx hb dX5_act_138 rfl ?_
              refine kFv (As := [.long (((x.2.2.2.2.2.1 ((a0 &&& (3 : Int32))).toNatClampNeg)).toInt64)]) (rest := []) hx hb hml hown hG hl (okX5_write l D cI cJ cP ad H.size x (((x.2.2.2.2.2.1 ((a0 &&& (3 : Int32))).toNatClampNeg)).toInt64) hI) (cV 1 hG kw327 kw328 kw329 kw330 kw238 hdX5_write ⟨by decide, by decide⟩) 0 5 rfl rfl hK hP hD hS hA hN rfl rfl (Nat.le_of_ble_eq_true rfl) dX5_act_139 ⟨Nat.zero_le _, Nat.zero_le _⟩ (fun u35 q35 H locs hP hD hS => ?_)
              have j35 : ivX5_writeP u35 := by rw [q35]; exact ivX5_write x (((x.2.2.2.2.2.1 ((a0 &&& (3 : Int32))).toNatClampNeg)).toInt64) hI
              refine lv_goto (tgt := 331) hx hb dX5_act_142 (by decide) ?_
              exact retv (u := u35) hx hb hr hlocks hK hP hD hS dX5_act_331 (by unfold fnX5_act; (try dsimp only); rw [if_pos h1]; rw [if_neg h2]; rw [if_neg h3]; rw [if_neg h4]; rw [if_pos h5]; rw [if_neg h6]; rw [← q35]; (try dsimp only); (try exact rfl))
          · refine lv_aload_n hx hb dX5_act_89 rfl (lv_at hl 1 rfl) ?_
            refine kFl (As := []) (rest := []) hx hb hml hown hG hl (okX5_here l D cI cJ cP ad H.size x hI) (cV 0 hG kw303 kw304 kw305 kw306 kw238 hdX5_here ⟨by decide, by decide⟩) 0 5 rfl rfl hK hP hD hS hA hN rfl rfl (Nat.le_of_ble_eq_true rfl) dX5_act_90 ⟨Nat.zero_le _, Nat.zero_le _⟩ (fun r36 u36 q36 H locs hP hD hS => ?_)
            have j36 : ivX5_hereP (r36, u36) := by rw [q36]; exact ivX5_here x hI
            refine lv_lstore_n (lv' := [(3, .long (r36)), (2, .int ((a0 &&& (3 : Int32)))), (0, .ref (ad 0)), (1, .int (a0))]) hx hb dX5_act_93 rfl hl (by decide) rfl (fun ls hl => ?_)
            refine lv_aload_n hx hb dX5_act_94 rfl (lv_at hl 2 rfl) ?_
            refine va_get (D := D) (ci := 5) (v := .ref (ad 7)) hx hb hG inX5 hown hK hP 0 rfl rfl 11 (by decide) (hG _ kw335) (fun _ h9 => h9) rfl dX5_act_95 ?_
            refine lv_iload_n hx hb dX5_act_98 rfl (lv_at hl 1 rfl) ?_
            refine lv_aload_n hx hb dX5_act_99 rfl (lv_at hl 2 rfl) ?_
            refine va_get (D := D) (ci := 5) (v := .int (u36.2.2.2.2.2.2.2.2.2.2.2.1.1)) hx hb hG inX5 hown hK hP 0 rfl rfl 28 (by decide) (hG _ kw242) (fun _ h9 => h9) rfl dX5_act_100 ?_
            refine lv_if_le (tgt := 115) hx hb dX5_act_103 (by decide) (fun h37 => ?_) (fun h37 => ?_)
            · refine lv_lload_n hx hb dX5_act_115 rfl (lv_at hl 0 rfl) ?_
              refine lv_l2i hx hb dX5_act_116 rfl ?_
              refine lv_sipush (v := 4095) hx hb dX5_act_117 (by decide) ?_
              refine lv_iand hx hb dX5_act_120 ?_
              refine si (D := D) (j := ((a0 &&& (3 : Int32))).toNatClampNeg) (f := u36.2.2.2.2.2.1) (x := ((r36).toInt32 &&& (4095 : Int32))) (W' := (wM cI cJ ad (u36.1, u36.2.1, u36.2.2.1, u36.2.2.2.1, u36.2.2.2.2.1, (upd u36.2.2.2.2.2.1 ((a0 &&& (3 : Int32))).toNatClampNeg ((r36).toInt32 &&& (4095 : Int32))), u36.2.2.2.2.2.2.1, u36.2.2.2.2.2.2.2.1, u36.2.2.2.2.2.2.2.2.1, u36.2.2.2.2.2.2.2.2.2.1, u36.2.2.2.2.2.2.2.2.2.2.1, u36.2.2.2.2.2.2.2.2.2.2.2.1, u36.2.2.2.2.2.2.2.2.2.2.2.2.1, u36.2.2.2.2.2.2.2.2.2.2.2.2.2.1, u36.2.2.2.2.2.2.2.2.2.2.2.2.2.2))) hx hb hK hP hD hS 7 0 rfl rfl (in2 (mk2 _)) rfl dX5_act_121 rfl (fun H locs hP hD hS => ?_)
              refine lv_goto (tgt := 331) hx hb dX5_act_122 (by decide) ?_
              exact retv (u := (u36.1, u36.2.1, u36.2.2.1, u36.2.2.2.1, u36.2.2.2.2.1, (upd u36.2.2.2.2.2.1 ((a0 &&& (3 : Int32))).toNatClampNeg ((r36).toInt32 &&& (4095 : Int32))), u36.2.2.2.2.2.2.1, u36.2.2.2.2.2.2.2.1, u36.2.2.2.2.2.2.2.2.1, u36.2.2.2.2.2.2.2.2.2.1, u36.2.2.2.2.2.2.2.2.2.2.1, u36.2.2.2.2.2.2.2.2.2.2.2.1, u36.2.2.2.2.2.2.2.2.2.2.2.2.1, u36.2.2.2.2.2.2.2.2.2.2.2.2.2.1, u36.2.2.2.2.2.2.2.2.2.2.2.2.2.2)) hx hb hr hlocks hK hP hD hS dX5_act_331 (by unfold fnX5_act; (try dsimp only); rw [if_pos h1]; rw [if_neg h2]; rw [if_neg h3]; rw [if_neg h4]; rw [if_neg h5]; rw [← q36]; (try dsimp only); rw [if_pos h37]; (try exact rfl))
            · refine lv_aload_n hx hb dX5_act_106 rfl (lv_at hl 2 rfl) ?_
              refine va_get (D := D) (ci := 5) (v := .ref (ad 7)) hx hb hG inX5 hown hK hP 0 rfl rfl 11 (by decide) (hG _ kw335) (fun _ h9 => h9) rfl dX5_act_107 ?_
              refine lv_iload_n hx hb dX5_act_110 rfl (lv_at hl 1 rfl) ?_
              refine gi (D := D) (j := ((a0 &&& (3 : Int32))).toNatClampNeg) (f := u36.2.2.2.2.2.1) hx hb hK hP 7 0 rfl rfl (in2 (mk2 _)) rfl dX5_act_111 ?_
              refine lv_goto (tgt := 121) hx hb dX5_act_112 (by decide) ?_
              refine si (D := D) (j := ((a0 &&& (3 : Int32))).toNatClampNeg) (f := u36.2.2.2.2.2.1) (x := (u36.2.2.2.2.2.1 ((a0 &&& (3 : Int32))).toNatClampNeg)) (W' := (wM cI cJ ad (u36.1, u36.2.1, u36.2.2.1, u36.2.2.2.1, u36.2.2.2.2.1, (upd u36.2.2.2.2.2.1 ((a0 &&& (3 : Int32))).toNatClampNeg (u36.2.2.2.2.2.1 ((a0 &&& (3 : Int32))).toNatClampNeg)), u36.2.2.2.2.2.2.1, u36.2.2.2.2.2.2.2.1, u36.2.2.2.2.2.2.2.2.1, u36.2.2.2.2.2.2.2.2.2.1, u36.2.2.2.2.2.2.2.2.2.2.1, u36.2.2.2.2.2.2.2.2.2.2.2.1, u36.2.2.2.2.2.2.2.2.2.2.2.2.1, u36.2.2.2.2.2.2.2.2.2.2.2.2.2.1, u36.2.2.2.2.2.2.2.2.2.2.2.2.2.2))) hx hb hK hP hD hS 7 0 rfl rfl (in2 (mk2 _)) rfl dX5_act_121 rfl (fun H locs hP hD hS => ?_)
              refine lv_goto (tgt := 331) hx hb dX5_act_122 (by decide) ?_
              exact retv (u := (u36.1, u36.2.1, u36.2.2.1, u36.2.2.2.1, u36.2.2.2.2.1, (upd u36.2.2.2.2.2.1 ((a0 &&& (3 : Int32))).toNatClampNeg (u36.2.2.2.2.2.1 ((a0 &&& (3 : Int32))).toNatClampNeg)), u36.2.2.2.2.2.2.1, u36.2.2.2.2.2.2.2.1, u36.2.2.2.2.2.2.2.2.1, u36.2.2.2.2.2.2.2.2.2.1, u36.2.2.2.2.2.2.2.2.2.2.1, u36.2.2.2.2.2.2.2.2.2.2.2.1, u36.2.2.2.2.2.2.2.2.2.2.2.2.1, u36.2.2.2.2.2.2.2.2.2.2.2.2.2.1, u36.2.2.2.2.2.2.2.2.2.2.2.2.2.2)) hx hb hr hlocks hK hP hD hS dX5_act_331 (by unfold fnX5_act; (try dsimp only); rw [if_pos h1]; rw [if_neg h2]; rw [if_neg h3]; rw [if_neg h4]; rw [if_neg h5]; rw [← q36]; (try dsimp only); rw [if_neg h37]; (try exact rfl))
        · refine lv_aload_n hx hb dX5_act_68 rfl (lv_at hl 1 rfl) ?_
          refine kFl (As := []) (rest := []) hx hb hml hown hG hl (okX5_here l D cI cJ cP ad H.size x hI) (cV 0 hG kw303 kw304 kw305 kw306 kw238 hdX5_here ⟨by decide, by decide⟩) 0 5 rfl rfl hK hP hD hS hA hN rfl rfl (Nat.le_of_ble_eq_true rfl) dX5_act_69 ⟨Nat.zero_le _, Nat.zero_le _⟩ (fun r38 u38 q38 H locs hP hD hS => ?_)
          have j38 : ivX5_hereP (r38, u38) := by rw [q38]; exact ivX5_here x hI
          refine lv_lstore_n (lv' := [(3, .long (r38)), (2, .int ((a0 &&& (3 : Int32)))), (0, .ref (ad 0)), (1, .int (a0))]) hx hb dX5_act_72 rfl hl (by decide) rfl (fun ls hl => ?_)
          refine lv_aload_n hx hb dX5_act_73 rfl (lv_at hl 2 rfl) ?_
          refine lv_lload_n hx hb dX5_act_74 rfl (lv_at hl 0 rfl) ?_
          refine lv_lconst (v := 1) hx hb dX5_act_75 (by decide) ?_
          refine lv_ladd hx hb dX5_act_76 ?_
          refine kFv (As := [.long ((r38 + (1 : Int64)))]) (rest := []) hx hb hml hown hG hl (okX5_write l D cI cJ cP ad H.size u38 (r38 + (1 : Int64)) j38) (cV 1 hG kw327 kw328 kw329 kw330 kw238 hdX5_write ⟨by decide, by decide⟩) 0 5 rfl rfl hK hP hD hS hA hN rfl rfl (Nat.le_of_ble_eq_true rfl) dX5_act_77 ⟨Nat.zero_le _, Nat.zero_le _⟩ (fun u39 q39 H locs hP hD hS => ?_)
          have j39 : ivX5_writeP u39 := by rw [q39]; exact ivX5_write u38 (r38 + (1 : Int64)) j38
          refine lv_goto (tgt := 331) hx hb dX5_act_80 (by decide) ?_
          exact retv (u := u39) hx hb hr hlocks hK hP hD hS dX5_act_331 (by unfold fnX5_act; (try dsimp only); rw [if_pos h1]; rw [if_neg h2]; rw [if_neg h3]; rw [if_pos h4]; rw [← q38]; (try dsimp only); rw [← q39]; (try dsimp only); (try exact rfl))
      · refine lv_aload_n hx hb dX5_act_51 rfl (lv_at hl 1 rfl) ?_
        refine lv_aload_n hx hb dX5_act_52 rfl (lv_at hl 1 rfl) ?_
        refine va_get (D := D) (ci := 5) (v := .long (x.2.2.2.2.1.2)) hx hb hG inX5 hown hK hP 0 rfl rfl 10 (by decide) (hG _ kw308) (fun _ h9 => h9) rfl dX5_act_53 ?_
        refine kFv (As := [.long (x.2.2.2.2.1.2)]) (rest := []) hx hb hml hown hG hl (okX5_write l D cI cJ cP ad H.size x x.2.2.2.2.1.2 hI) (cV 1 hG kw327 kw328 kw329 kw330 kw238 hdX5_write ⟨by decide, by decide⟩) 0 5 rfl rfl hK hP hD hS hA hN rfl rfl (Nat.le_of_ble_eq_true rfl) dX5_act_56 ⟨Nat.zero_le _, Nat.zero_le _⟩ (fun u40 q40 H locs hP hD hS => ?_)
        have j40 : ivX5_writeP u40 := by rw [q40]; exact ivX5_write x x.2.2.2.2.1.2 hI
        refine lv_goto (tgt := 331) hx hb dX5_act_59 (by decide) ?_
        exact retv (u := u40) hx hb hr hlocks hK hP hD hS dX5_act_331 (by unfold fnX5_act; (try dsimp only); rw [if_pos h1]; rw [if_neg h2]; rw [if_pos h3]; rw [← q40]; (try dsimp only); (try exact rfl))
    · refine lv_aload_n hx hb dX5_act_34 rfl (lv_at hl 1 rfl) ?_
      refine lv_aload_n hx hb dX5_act_35 rfl (lv_at hl 1 rfl) ?_
      refine va_get (D := D) (ci := 5) (v := .long (x.2.2.2.2.1.1)) hx hb hG inX5 hown hK hP 0 rfl rfl 9 (by decide) (hG _ kw307) (fun _ h9 => h9) rfl dX5_act_36 ?_
      refine kFv (As := [.long (x.2.2.2.2.1.1)]) (rest := []) hx hb hml hown hG hl (okX5_write l D cI cJ cP ad H.size x x.2.2.2.2.1.1 hI) (cV 1 hG kw327 kw328 kw329 kw330 kw238 hdX5_write ⟨by decide, by decide⟩) 0 5 rfl rfl hK hP hD hS hA hN rfl rfl (Nat.le_of_ble_eq_true rfl) dX5_act_39 ⟨Nat.zero_le _, Nat.zero_le _⟩ (fun u41 q41 H locs hP hD hS => ?_)
      have j41 : ivX5_writeP u41 := by rw [q41]; exact ivX5_write x x.2.2.2.2.1.1 hI
      refine lv_goto (tgt := 331) hx hb dX5_act_42 (by decide) ?_
      exact retv (u := u41) hx hb hr hlocks hK hP hD hS dX5_act_331 (by unfold fnX5_act; (try dsimp only); rw [if_pos h1]; rw [if_pos h2]; rw [← q41]; (try dsimp only); (try exact rfl))
  · refine lv_iload_n hx hb dX5_act_10 rfl (lv_at hl 2 rfl) ?_
    refine lv_iconst (v := 2) hx hb dX5_act_11 (by decide) ?_
    refine lv_icmp_eq (tgt := 29) hx hb dX5_act_12 (by decide) (fun h42 => ?_) (fun h42 => ?_)
    · refine lv_iload_n hx hb dX5_act_29 rfl (lv_at hl 2 rfl) ?_
      refine lv_iconst (v := 2) hx hb dX5_act_30 (by decide) ?_
      refine lv_icmp_ne (tgt := 45) hx hb dX5_act_31 (by decide) (fun h9 => absurd h42 h9) (fun _ => ?_)
      refine lv_aload_n hx hb dX5_act_34 rfl (lv_at hl 1 rfl) ?_
      refine lv_aload_n hx hb dX5_act_35 rfl (lv_at hl 1 rfl) ?_
      refine va_get (D := D) (ci := 5) (v := .long (x.2.2.2.2.1.1)) hx hb hG inX5 hown hK hP 0 rfl rfl 9 (by decide) (hG _ kw307) (fun _ h9 => h9) rfl dX5_act_36 ?_
      refine kFv (As := [.long (x.2.2.2.2.1.1)]) (rest := []) hx hb hml hown hG hl (okX5_write l D cI cJ cP ad H.size x x.2.2.2.2.1.1 hI) (cV 1 hG kw327 kw328 kw329 kw330 kw238 hdX5_write ⟨by decide, by decide⟩) 0 5 rfl rfl hK hP hD hS hA hN rfl rfl (Nat.le_of_ble_eq_true rfl) dX5_act_39 ⟨Nat.zero_le _, Nat.zero_le _⟩ (fun u43 q43 H locs hP hD hS => ?_)
      have j43 : ivX5_writeP u43 := by rw [q43]; exact ivX5_write x x.2.2.2.2.1.1 hI
      refine lv_goto (tgt := 331) hx hb dX5_act_42 (by decide) ?_
      exact retv (u := u43) hx hb hr hlocks hK hP hD hS dX5_act_331 (by unfold fnX5_act; (try dsimp only); rw [if_neg h1]; rw [if_pos h42]; rw [← q43]; (try dsimp only); (try exact rfl))
    · refine lv_iload_n hx hb dX5_act_15 rfl (lv_at hl 2 rfl) ?_
      refine lv_bipush (v := 10) hx hb dX5_act_16 (by decide) ?_
      refine lv_icmp_eq (tgt := 29) hx hb dX5_act_18 (by decide) (fun h44 => ?_) (fun h44 => ?_)
      · refine lv_iload_n hx hb dX5_act_29 rfl (lv_at hl 2 rfl) ?_
        refine lv_iconst (v := 2) hx hb dX5_act_30 (by decide) ?_
        refine lv_icmp_ne (tgt := 45) hx hb dX5_act_31 (by decide) (fun _ => ?_) (fun h9 => absurd h9 h42)
        refine lv_iload_n hx hb dX5_act_45 rfl (lv_at hl 2 rfl) ?_
        refine lv_bipush (v := 10) hx hb dX5_act_46 (by decide) ?_
        refine lv_icmp_ne (tgt := 62) hx hb dX5_act_48 (by decide) (fun h9 => absurd h44 h9) (fun _ => ?_)
        refine lv_aload_n hx hb dX5_act_51 rfl (lv_at hl 1 rfl) ?_
        refine lv_aload_n hx hb dX5_act_52 rfl (lv_at hl 1 rfl) ?_
        refine va_get (D := D) (ci := 5) (v := .long (x.2.2.2.2.1.2)) hx hb hG inX5 hown hK hP 0 rfl rfl 10 (by decide) (hG _ kw308) (fun _ h9 => h9) rfl dX5_act_53 ?_
        refine kFv (As := [.long (x.2.2.2.2.1.2)]) (rest := []) hx hb hml hown hG hl (okX5_write l D cI cJ cP ad H.size x x.2.2.2.2.1.2 hI) (cV 1 hG kw327 kw328 kw329 kw330 kw238 hdX5_write ⟨by decide, by decide⟩) 0 5 rfl rfl hK hP hD hS hA hN rfl rfl (Nat.le_of_ble_eq_true rfl) dX5_act_56 ⟨Nat.zero_le _, Nat.zero_le _⟩ (fun u45 q45 H locs hP hD hS => ?_)
        have j45 : ivX5_writeP u45 := by rw [q45]; exact ivX5_write x x.2.2.2.2.1.2 hI
        refine lv_goto (tgt := 331) hx hb dX5_act_59 (by decide) ?_
        exact retv (u := u45) hx hb hr hlocks hK hP hD hS dX5_act_331 (by unfold fnX5_act; (try dsimp only); rw [if_neg h1]; rw [if_neg h42]; rw [if_pos h44]; rw [← q45]; (try dsimp only); (try exact rfl))
      · refine lv_aload_n hx hb dX5_act_21 rfl (lv_at hl 1 rfl) ?_
        refine lv_iload_n hx hb dX5_act_22 rfl (lv_at hl 2 rfl) ?_
        refine kFv (As := [.int (a0)]) (rest := []) hx hb hml hown hG hl (okX5_reckon l D cI cJ cP ad H.size x a0 hI) (cV 1 hG kw336 kw337 kw338 kw339 kw238 hdX5_reckon ⟨by decide, by decide⟩) 0 5 rfl rfl hK hP hD hS hA hN rfl rfl (Nat.le_of_ble_eq_true rfl) dX5_act_23 ⟨Nat.zero_le _, Nat.zero_le _⟩ (fun u46 q46 H locs hP hD hS => ?_)
        have j46 : ivX5_reckonP u46 := by rw [q46]; exact ivX5_reckon x a0 hI
        refine lv_goto (tgt := 331) hx hb dX5_act_26 (by decide) ?_
        exact retv (u := u46) hx hb hr hlocks hK hP hD hS dX5_act_331 (by unfold fnX5_act; (try dsimp only); rw [if_neg h1]; rw [if_neg h42]; rw [if_neg h44]; rw [← q46]; (try dsimp only); (try exact rfl))
def fnX5_save (x : TM) (a0 : Int32) (a1 : Int32) (a2 : Int32) : TM :=
  if x.2.2.2.2.2.2.2.2.1.1 = (0 : Int32) then
   (x.1, x.2.1, x.2.2.1, x.2.2.2.1, x.2.2.2.2.1, x.2.2.2.2.2.1, x.2.2.2.2.2.2.1, ((0 : Int32), ((16 : Int32) + a0), (0 : Int32)), ((1 : Int32), x.2.2.2.2.2.2.2.2.1.2.1, x.2.2.2.2.2.2.2.2.1.2.2.1, (1 : Int32)), (x.2.2.2.2.2.2.2.1.1, x.2.2.2.2.2.2.2.1.2.1, x.2.2.2.2.2.2.2.1.2.2), (a0, a1, a2), x.2.2.2.2.2.2.2.2.2.2.2.1, x.2.2.2.2.2.2.2.2.2.2.2.2.1, x.2.2.2.2.2.2.2.2.2.2.2.2.2.1, x.2.2.2.2.2.2.2.2.2.2.2.2.2.2)
  else
   (x.1, x.2.1, x.2.2.1, x.2.2.2.1, x.2.2.2.2.1, x.2.2.2.2.2.1, x.2.2.2.2.2.2.1, x.2.2.2.2.2.2.2.1, (x.2.2.2.2.2.2.2.2.1.1, (1 : Int32), x.2.2.2.2.2.2.2.2.1.2.2.1, x.2.2.2.2.2.2.2.2.1.2.2.2), x.2.2.2.2.2.2.2.2.2.1, (a0, a1, a2), x.2.2.2.2.2.2.2.2.2.2.2.1, x.2.2.2.2.2.2.2.2.2.2.2.2.1, x.2.2.2.2.2.2.2.2.2.2.2.2.2.1, x.2.2.2.2.2.2.2.2.2.2.2.2.2.2)
abbrev ivX5_saveP (z : TM) : Prop := iM z
set_option maxRecDepth 100000 in
set_option maxHeartbeats 4000000 in
theorem ivX5_save (x : TM) (a0 : Int32) (a1 : Int32) (a2 : Int32) (hI : iM x) (g0 : i4 a0) : ivX5_saveP (fnX5_save x a0 a1 a2) := by
  unfold fnX5_save
  try dsimp only
  refine iteI (fun h1 => ?_) (fun h1 => ?_)
  · exact ⟨hI.1, hI.2.1, hI.2.2.1, ⟨(show i4 (0 : Int32) from by decide), (ent g0)⟩, hI.2.2.2.2.1, ⟨hI.2.2.2.1.1, hI.2.2.2.1.2⟩, hI.2.2.2.2.2.2.1, hI.2.2.2.2.2.2.2⟩
  · exact ⟨hI.1, hI.2.1, hI.2.2.1, hI.2.2.2.1, hI.2.2.2.2.1, hI.2.2.2.2.2.1, hI.2.2.2.2.2.2.1, hI.2.2.2.2.2.2.2⟩
set_option maxRecDepth 100000 in
set_option maxHeartbeats 4000000 in
theorem okX5_save (l : Launch) (D : va_G) (cI cJ cP : ClassId) (ad : Nat → Nat) (sz : Nat) (x : TM) (a0 : Int32) (a1 : Int32) (a2 : Int32) (hI : iM x) (g0 : i4 a0) : Met l yX5_save (Cond.code yX5_save cX5_save 4 none :: gG) { frames := 0, cells := 0, slots := 0, locals := 0 } (va_Pc [.ref (ad 0), .int a0, .int a1, .int a2] (PRE D (tz cI cJ cP) sz (wM cI cJ ad x))) (va_Qv (fun (u : TM) => u = fnX5_save x a0 a1 a2) (AT D (tz cI cJ cP) (va_A (wM cI cJ ad x) sz) (fun (u : TM) => (wM cI cJ ad u))) (va_A (wM cI cJ ad x) sz)) 0 0 (va_A (wM cI cJ ad x) sz) := by
  refine mo (QA := fun A => va_Qv (fun (u : TM) => u = fnX5_save x a0 a1 a2) (AT D (tz cI cJ cP) A (fun (u : TM) => (wM cI cJ ad u))) A) (by decide) (Nat.le_of_ble_eq_true rfl) ?_
  intro p e s m below meth c A ls H hx hb hr hml hown hG hlocks hnm hA hS hP hK hD hl hN
  have hown : s.vm.findClass RX5 = some m.cls := hown
  have hl : lv_has ls 4 [(0, .ref (ad 0)), (1, .int a0), (2, .int a1), (3, .int a2)] := hl
  refine lv_aload_n hx hb dX5_save_0 rfl (lv_at hl 0 rfl) ?_
  refine lv_iload_n hx hb dX5_save_1 rfl (lv_at hl 1 rfl) ?_
  refine pu (D := D) (ci := 5) (v := .int (a0)) (ty := .int) (W' := (wM cI cJ ad (x.1, x.2.1, x.2.2.1, x.2.2.2.1, x.2.2.2.2.1, x.2.2.2.2.2.1, x.2.2.2.2.2.2.1, x.2.2.2.2.2.2.2.1, x.2.2.2.2.2.2.2.2.1, x.2.2.2.2.2.2.2.2.2.1, (a0, x.2.2.2.2.2.2.2.2.2.2.1.2.1, x.2.2.2.2.2.2.2.2.2.2.1.2.2), x.2.2.2.2.2.2.2.2.2.2.2.1, x.2.2.2.2.2.2.2.2.2.2.2.2.1, x.2.2.2.2.2.2.2.2.2.2.2.2.2.1, x.2.2.2.2.2.2.2.2.2.2.2.2.2.2))) hx hb hG inX5 tyX5 tyokX5 nmX5 hown hK hP hD hS 0 rfl rfl 25 (by decide) (hG _ kw340) (fun _ h9 => h9) rfl (by decide +kernel) rfl rfl (Nat.le_of_ble_eq_true rfl) dX5_save_2 rfl (fun H locs hP hD hS => ?_)
  refine lv_aload_n hx hb dX5_save_5 rfl (lv_at hl 0 rfl) ?_
  refine lv_iload_n hx hb dX5_save_6 rfl (lv_at hl 2 rfl) ?_
  refine pu (D := D) (ci := 5) (v := .int (a1)) (ty := .int) (W' := (wM cI cJ ad (x.1, x.2.1, x.2.2.1, x.2.2.2.1, x.2.2.2.2.1, x.2.2.2.2.2.1, x.2.2.2.2.2.2.1, x.2.2.2.2.2.2.2.1, x.2.2.2.2.2.2.2.2.1, x.2.2.2.2.2.2.2.2.2.1, (a0, a1, x.2.2.2.2.2.2.2.2.2.2.1.2.2), x.2.2.2.2.2.2.2.2.2.2.2.1, x.2.2.2.2.2.2.2.2.2.2.2.2.1, x.2.2.2.2.2.2.2.2.2.2.2.2.2.1, x.2.2.2.2.2.2.2.2.2.2.2.2.2.2))) hx hb hG inX5 tyX5 tyokX5 nmX5 hown hK hP hD hS 0 rfl rfl 26 (by decide) (hG _ kw341) (fun _ h9 => h9) rfl (by decide +kernel) rfl rfl (Nat.le_of_ble_eq_true rfl) dX5_save_7 rfl (fun H locs hP hD hS => ?_)
  refine lv_aload_n hx hb dX5_save_10 rfl (lv_at hl 0 rfl) ?_
  refine lv_iload_n hx hb dX5_save_11 rfl (lv_at hl 3 rfl) ?_
  refine pu (D := D) (ci := 5) (v := .int (a2)) (ty := .int) (W' := (wM cI cJ ad (x.1, x.2.1, x.2.2.1, x.2.2.2.1, x.2.2.2.2.1, x.2.2.2.2.2.1, x.2.2.2.2.2.2.1, x.2.2.2.2.2.2.2.1, x.2.2.2.2.2.2.2.2.1, x.2.2.2.2.2.2.2.2.2.1, (a0, a1, a2), x.2.2.2.2.2.2.2.2.2.2.2.1, x.2.2.2.2.2.2.2.2.2.2.2.2.1, x.2.2.2.2.2.2.2.2.2.2.2.2.2.1, x.2.2.2.2.2.2.2.2.2.2.2.2.2.2))) hx hb hG inX5 tyX5 tyokX5 nmX5 hown hK hP hD hS 0 rfl rfl 27 (by decide) (hG _ kw342) (fun _ h9 => h9) rfl (by decide +kernel) rfl rfl (Nat.le_of_ble_eq_true rfl) dX5_save_12 rfl (fun H locs hP hD hS => ?_)
  refine lv_aload_n hx hb dX5_save_15 rfl (lv_at hl 0 rfl) ?_
  refine va_get (D := D) (ci := 5) (v := .int (x.2.2.2.2.2.2.2.2.1.1)) hx hb hG inX5 hown hK hP 0 rfl rfl 18 (by decide) (hG _ kw314) (fun _ h9 => h9) rfl dX5_save_16 ?_
  refine lv_if_eq (tgt := 28) hx hb dX5_save_19 (by decide) (fun h1 => ?_) (fun h1 => ?_)
  · refine lv_aload_n hx hb dX5_save_28 rfl (lv_at hl 0 rfl) ?_
    refine lv_iconst (v := 1) hx hb dX5_save_29 (by decide) ?_
    refine pu (D := D) (ci := 5) (v := .int ((1 : Int32))) (ty := .boolean) (W' := (wM cI cJ ad (x.1, x.2.1, x.2.2.1, x.2.2.2.1, x.2.2.2.2.1, x.2.2.2.2.2.1, x.2.2.2.2.2.2.1, x.2.2.2.2.2.2.2.1, (x.2.2.2.2.2.2.2.2.1.1, x.2.2.2.2.2.2.2.2.1.2.1, x.2.2.2.2.2.2.2.2.1.2.2.1, (1 : Int32)), x.2.2.2.2.2.2.2.2.2.1, (a0, a1, a2), x.2.2.2.2.2.2.2.2.2.2.2.1, x.2.2.2.2.2.2.2.2.2.2.2.2.1, x.2.2.2.2.2.2.2.2.2.2.2.2.2.1, x.2.2.2.2.2.2.2.2.2.2.2.2.2.2))) hx hb hG inX5 tyX5 tyokX5 nmX5 hown hK hP hD hS 0 rfl rfl 21 (by decide) (hG _ kw343) (fun _ h9 => h9) rfl (by decide +kernel) rfl rfl (Nat.le_of_ble_eq_true rfl) dX5_save_30 rfl (fun H locs hP hD hS => ?_)
    refine lv_aload_n hx hb dX5_save_33 rfl (lv_at hl 0 rfl) ?_
    refine lv_aload_n hx hb dX5_save_34 rfl (lv_at hl 0 rfl) ?_
    refine va_get (D := D) (ci := 5) (v := .int (x.2.2.2.2.2.2.2.1.1)) hx hb hG inX5 hown hK hP 0 rfl rfl 15 (by decide) (hG _ kw245) (fun _ h9 => h9) rfl dX5_save_35 ?_
    refine pu (D := D) (ci := 5) (v := .int (x.2.2.2.2.2.2.2.1.1)) (ty := .int) (W' := (wM cI cJ ad (x.1, x.2.1, x.2.2.1, x.2.2.2.1, x.2.2.2.2.1, x.2.2.2.2.2.1, x.2.2.2.2.2.2.1, x.2.2.2.2.2.2.2.1, (x.2.2.2.2.2.2.2.2.1.1, x.2.2.2.2.2.2.2.2.1.2.1, x.2.2.2.2.2.2.2.2.1.2.2.1, (1 : Int32)), (x.2.2.2.2.2.2.2.1.1, x.2.2.2.2.2.2.2.2.2.1.2.1, x.2.2.2.2.2.2.2.2.2.1.2.2), (a0, a1, a2), x.2.2.2.2.2.2.2.2.2.2.2.1, x.2.2.2.2.2.2.2.2.2.2.2.2.1, x.2.2.2.2.2.2.2.2.2.2.2.2.2.1, x.2.2.2.2.2.2.2.2.2.2.2.2.2.2))) hx hb hG inX5 tyX5 tyokX5 nmX5 hown hK hP hD hS 0 rfl rfl 22 (by decide) (hG _ kw311) (fun _ h9 => h9) rfl (by decide +kernel) rfl rfl (Nat.le_of_ble_eq_true rfl) dX5_save_38 rfl (fun H locs hP hD hS => ?_)
    refine lv_aload_n hx hb dX5_save_41 rfl (lv_at hl 0 rfl) ?_
    refine lv_aload_n hx hb dX5_save_42 rfl (lv_at hl 0 rfl) ?_
    refine va_get (D := D) (ci := 5) (v := .int (x.2.2.2.2.2.2.2.1.2.1)) hx hb hG inX5 hown hK hP 0 rfl rfl 16 (by decide) (hG _ kw246) (fun _ h9 => h9) rfl dX5_save_43 ?_
    refine pu (D := D) (ci := 5) (v := .int (x.2.2.2.2.2.2.2.1.2.1)) (ty := .int) (W' := (wM cI cJ ad (x.1, x.2.1, x.2.2.1, x.2.2.2.1, x.2.2.2.2.1, x.2.2.2.2.2.1, x.2.2.2.2.2.2.1, x.2.2.2.2.2.2.2.1, (x.2.2.2.2.2.2.2.2.1.1, x.2.2.2.2.2.2.2.2.1.2.1, x.2.2.2.2.2.2.2.2.1.2.2.1, (1 : Int32)), (x.2.2.2.2.2.2.2.1.1, x.2.2.2.2.2.2.2.1.2.1, x.2.2.2.2.2.2.2.2.2.1.2.2), (a0, a1, a2), x.2.2.2.2.2.2.2.2.2.2.2.1, x.2.2.2.2.2.2.2.2.2.2.2.2.1, x.2.2.2.2.2.2.2.2.2.2.2.2.2.1, x.2.2.2.2.2.2.2.2.2.2.2.2.2.2))) hx hb hG inX5 tyX5 tyokX5 nmX5 hown hK hP hD hS 0 rfl rfl 23 (by decide) (hG _ kw312) (fun _ h9 => h9) rfl (by decide +kernel) rfl rfl (Nat.le_of_ble_eq_true rfl) dX5_save_46 rfl (fun H locs hP hD hS => ?_)
    refine lv_aload_n hx hb dX5_save_49 rfl (lv_at hl 0 rfl) ?_
    refine lv_aload_n hx hb dX5_save_50 rfl (lv_at hl 0 rfl) ?_
    refine va_get (D := D) (ci := 5) (v := .int (x.2.2.2.2.2.2.2.1.2.2)) hx hb hG inX5 hown hK hP 0 rfl rfl 17 (by decide) (hG _ kw309) (fun _ h9 => h9) rfl dX5_save_51 ?_
    refine pu (D := D) (ci := 5) (v := .int (x.2.2.2.2.2.2.2.1.2.2)) (ty := .int) (W' := (wM cI cJ ad (x.1, x.2.1, x.2.2.1, x.2.2.2.1, x.2.2.2.2.1, x.2.2.2.2.2.1, x.2.2.2.2.2.2.1, x.2.2.2.2.2.2.2.1, (x.2.2.2.2.2.2.2.2.1.1, x.2.2.2.2.2.2.2.2.1.2.1, x.2.2.2.2.2.2.2.2.1.2.2.1, (1 : Int32)), (x.2.2.2.2.2.2.2.1.1, x.2.2.2.2.2.2.2.1.2.1, x.2.2.2.2.2.2.2.1.2.2), (a0, a1, a2), x.2.2.2.2.2.2.2.2.2.2.2.1, x.2.2.2.2.2.2.2.2.2.2.2.2.1, x.2.2.2.2.2.2.2.2.2.2.2.2.2.1, x.2.2.2.2.2.2.2.2.2.2.2.2.2.2))) hx hb hG inX5 tyX5 tyokX5 nmX5 hown hK hP hD hS 0 rfl rfl 24 (by decide) (hG _ kw313) (fun _ h9 => h9) rfl (by decide +kernel) rfl rfl (Nat.le_of_ble_eq_true rfl) dX5_save_54 rfl (fun H locs hP hD hS => ?_)
    refine lv_aload_n hx hb dX5_save_57 rfl (lv_at hl 0 rfl) ?_
    refine lv_iconst (v := 1) hx hb dX5_save_58 (by decide) ?_
    refine pu (D := D) (ci := 5) (v := .int ((1 : Int32))) (ty := .boolean) (W' := (wM cI cJ ad (x.1, x.2.1, x.2.2.1, x.2.2.2.1, x.2.2.2.2.1, x.2.2.2.2.2.1, x.2.2.2.2.2.2.1, x.2.2.2.2.2.2.2.1, ((1 : Int32), x.2.2.2.2.2.2.2.2.1.2.1, x.2.2.2.2.2.2.2.2.1.2.2.1, (1 : Int32)), (x.2.2.2.2.2.2.2.1.1, x.2.2.2.2.2.2.2.1.2.1, x.2.2.2.2.2.2.2.1.2.2), (a0, a1, a2), x.2.2.2.2.2.2.2.2.2.2.2.1, x.2.2.2.2.2.2.2.2.2.2.2.2.1, x.2.2.2.2.2.2.2.2.2.2.2.2.2.1, x.2.2.2.2.2.2.2.2.2.2.2.2.2.2))) hx hb hG inX5 tyX5 tyokX5 nmX5 hown hK hP hD hS 0 rfl rfl 18 (by decide) (hG _ kw314) (fun _ h9 => h9) rfl (by decide +kernel) rfl rfl (Nat.le_of_ble_eq_true rfl) dX5_save_59 rfl (fun H locs hP hD hS => ?_)
    refine lv_aload_n hx hb dX5_save_62 rfl (lv_at hl 0 rfl) ?_
    refine lv_iconst (v := 0) hx hb dX5_save_63 (by decide) ?_
    refine pu (D := D) (ci := 5) (v := .int ((0 : Int32))) (ty := .int) (W' := (wM cI cJ ad (x.1, x.2.1, x.2.2.1, x.2.2.2.1, x.2.2.2.2.1, x.2.2.2.2.2.1, x.2.2.2.2.2.2.1, (x.2.2.2.2.2.2.2.1.1, x.2.2.2.2.2.2.2.1.2.1, (0 : Int32)), ((1 : Int32), x.2.2.2.2.2.2.2.2.1.2.1, x.2.2.2.2.2.2.2.2.1.2.2.1, (1 : Int32)), (x.2.2.2.2.2.2.2.1.1, x.2.2.2.2.2.2.2.1.2.1, x.2.2.2.2.2.2.2.1.2.2), (a0, a1, a2), x.2.2.2.2.2.2.2.2.2.2.2.1, x.2.2.2.2.2.2.2.2.2.2.2.2.1, x.2.2.2.2.2.2.2.2.2.2.2.2.2.1, x.2.2.2.2.2.2.2.2.2.2.2.2.2.2))) hx hb hG inX5 tyX5 tyokX5 nmX5 hown hK hP hD hS 0 rfl rfl 17 (by decide) (hG _ kw309) (fun _ h9 => h9) rfl (by decide +kernel) rfl rfl (Nat.le_of_ble_eq_true rfl) dX5_save_64 rfl (fun H locs hP hD hS => ?_)
    refine lv_aload_n hx hb dX5_save_67 rfl (lv_at hl 0 rfl) ?_
    refine lv_iconst (v := 0) hx hb dX5_save_68 (by decide) ?_
    refine pu (D := D) (ci := 5) (v := .int ((0 : Int32))) (ty := .int) (W' := (wM cI cJ ad (x.1, x.2.1, x.2.2.1, x.2.2.2.1, x.2.2.2.2.1, x.2.2.2.2.2.1, x.2.2.2.2.2.2.1, ((0 : Int32), x.2.2.2.2.2.2.2.1.2.1, (0 : Int32)), ((1 : Int32), x.2.2.2.2.2.2.2.2.1.2.1, x.2.2.2.2.2.2.2.2.1.2.2.1, (1 : Int32)), (x.2.2.2.2.2.2.2.1.1, x.2.2.2.2.2.2.2.1.2.1, x.2.2.2.2.2.2.2.1.2.2), (a0, a1, a2), x.2.2.2.2.2.2.2.2.2.2.2.1, x.2.2.2.2.2.2.2.2.2.2.2.2.1, x.2.2.2.2.2.2.2.2.2.2.2.2.2.1, x.2.2.2.2.2.2.2.2.2.2.2.2.2.2))) hx hb hG inX5 tyX5 tyokX5 nmX5 hown hK hP hD hS 0 rfl rfl 15 (by decide) (hG _ kw245) (fun _ h9 => h9) rfl (by decide +kernel) rfl rfl (Nat.le_of_ble_eq_true rfl) dX5_save_69 rfl (fun H locs hP hD hS => ?_)
    refine lv_aload_n hx hb dX5_save_72 rfl (lv_at hl 0 rfl) ?_
    refine lv_bipush (v := 16) hx hb dX5_save_73 (by decide) ?_
    refine lv_iload_n hx hb dX5_save_75 rfl (lv_at hl 1 rfl) ?_
    refine lv_iadd hx hb dX5_save_76 ?_
    refine pu (D := D) (ci := 5) (v := .int (((16 : Int32) + a0))) (ty := .int) (W' := (wM cI cJ ad (x.1, x.2.1, x.2.2.1, x.2.2.2.1, x.2.2.2.2.1, x.2.2.2.2.2.1, x.2.2.2.2.2.2.1, ((0 : Int32), ((16 : Int32) + a0), (0 : Int32)), ((1 : Int32), x.2.2.2.2.2.2.2.2.1.2.1, x.2.2.2.2.2.2.2.2.1.2.2.1, (1 : Int32)), (x.2.2.2.2.2.2.2.1.1, x.2.2.2.2.2.2.2.1.2.1, x.2.2.2.2.2.2.2.1.2.2), (a0, a1, a2), x.2.2.2.2.2.2.2.2.2.2.2.1, x.2.2.2.2.2.2.2.2.2.2.2.2.1, x.2.2.2.2.2.2.2.2.2.2.2.2.2.1, x.2.2.2.2.2.2.2.2.2.2.2.2.2.2))) hx hb hG inX5 tyX5 tyokX5 nmX5 hown hK hP hD hS 0 rfl rfl 16 (by decide) (hG _ kw246) (fun _ h9 => h9) rfl (by decide +kernel) rfl rfl (Nat.le_of_ble_eq_true rfl) dX5_save_77 rfl (fun H locs hP hD hS => ?_)
    exact retv (u := (x.1, x.2.1, x.2.2.1, x.2.2.2.1, x.2.2.2.2.1, x.2.2.2.2.2.1, x.2.2.2.2.2.2.1, ((0 : Int32), ((16 : Int32) + a0), (0 : Int32)), ((1 : Int32), x.2.2.2.2.2.2.2.2.1.2.1, x.2.2.2.2.2.2.2.2.1.2.2.1, (1 : Int32)), (x.2.2.2.2.2.2.2.1.1, x.2.2.2.2.2.2.2.1.2.1, x.2.2.2.2.2.2.2.1.2.2), (a0, a1, a2), x.2.2.2.2.2.2.2.2.2.2.2.1, x.2.2.2.2.2.2.2.2.2.2.2.2.1, x.2.2.2.2.2.2.2.2.2.2.2.2.2.1, x.2.2.2.2.2.2.2.2.2.2.2.2.2.2)) hx hb hr hlocks hK hP hD hS dX5_save_80 (by unfold fnX5_save; (try dsimp only); rw [if_pos h1]; (try exact rfl))
  · refine lv_aload_n hx hb dX5_save_22 rfl (lv_at hl 0 rfl) ?_
    refine lv_iconst (v := 1) hx hb dX5_save_23 (by decide) ?_
    refine pu (D := D) (ci := 5) (v := .int ((1 : Int32))) (ty := .boolean) (W' := (wM cI cJ ad (x.1, x.2.1, x.2.2.1, x.2.2.2.1, x.2.2.2.2.1, x.2.2.2.2.2.1, x.2.2.2.2.2.2.1, x.2.2.2.2.2.2.2.1, (x.2.2.2.2.2.2.2.2.1.1, (1 : Int32), x.2.2.2.2.2.2.2.2.1.2.2.1, x.2.2.2.2.2.2.2.2.1.2.2.2), x.2.2.2.2.2.2.2.2.2.1, (a0, a1, a2), x.2.2.2.2.2.2.2.2.2.2.2.1, x.2.2.2.2.2.2.2.2.2.2.2.2.1, x.2.2.2.2.2.2.2.2.2.2.2.2.2.1, x.2.2.2.2.2.2.2.2.2.2.2.2.2.2))) hx hb hG inX5 tyX5 tyokX5 nmX5 hown hK hP hD hS 0 rfl rfl 19 (by decide) (hG _ kw315) (fun _ h9 => h9) rfl (by decide +kernel) rfl rfl (Nat.le_of_ble_eq_true rfl) dX5_save_24 rfl (fun H locs hP hD hS => ?_)
    exact retv (u := (x.1, x.2.1, x.2.2.1, x.2.2.2.1, x.2.2.2.2.1, x.2.2.2.2.2.1, x.2.2.2.2.2.2.1, x.2.2.2.2.2.2.2.1, (x.2.2.2.2.2.2.2.2.1.1, (1 : Int32), x.2.2.2.2.2.2.2.2.1.2.2.1, x.2.2.2.2.2.2.2.2.1.2.2.2), x.2.2.2.2.2.2.2.2.2.1, (a0, a1, a2), x.2.2.2.2.2.2.2.2.2.2.2.1, x.2.2.2.2.2.2.2.2.2.2.2.2.1, x.2.2.2.2.2.2.2.2.2.2.2.2.2.1, x.2.2.2.2.2.2.2.2.2.2.2.2.2.2)) hx hb hr hlocks hK hP hD hS dX5_save_27 (by unfold fnX5_save; (try dsimp only); rw [if_neg h1]; (try exact rfl))
