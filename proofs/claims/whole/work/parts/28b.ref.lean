def fnX5_reach (x : TM) (a0 : Int32) (a1 : Int32) (a2 : Int32) (a3 : Int32) : Int32 × TM :=
  if a0 < (0 : Int32) then
   ((0 : Int32), ((1 : Int32), x.2.1, x.2.2.1, x.2.2.2.1, x.2.2.2.2.1, x.2.2.2.2.2.1, x.2.2.2.2.2.2.1, x.2.2.2.2.2.2.2.1, x.2.2.2.2.2.2.2.2.1, x.2.2.2.2.2.2.2.2.2.1, x.2.2.2.2.2.2.2.2.2.2.1, x.2.2.2.2.2.2.2.2.2.2.2.1, x.2.2.2.2.2.2.2.2.2.2.2.2.1, x.2.2.2.2.2.2.2.2.2.2.2.2.2.1, x.2.2.2.2.2.2.2.2.2.2.2.2.2.2))
  else
   if a0 ≤ (15 : Int32) then
    if a2 < (0 : Int32) then
     ((0 : Int32), ((2 : Int32), x.2.1, x.2.2.1, x.2.2.2.1, x.2.2.2.2.1, x.2.2.2.2.2.1, x.2.2.2.2.2.2.1, x.2.2.2.2.2.2.2.1, x.2.2.2.2.2.2.2.2.1, x.2.2.2.2.2.2.2.2.2.1, x.2.2.2.2.2.2.2.2.2.2.1, x.2.2.2.2.2.2.2.2.2.2.2.1, x.2.2.2.2.2.2.2.2.2.2.2.2.1, x.2.2.2.2.2.2.2.2.2.2.2.2.2.1, x.2.2.2.2.2.2.2.2.2.2.2.2.2.2))
    else
     if (7 : Int32) < a2 then
      ((0 : Int32), ((2 : Int32), x.2.1, x.2.2.1, x.2.2.2.1, x.2.2.2.2.1, x.2.2.2.2.2.1, x.2.2.2.2.2.2.1, x.2.2.2.2.2.2.2.1, x.2.2.2.2.2.2.2.2.1, x.2.2.2.2.2.2.2.2.2.1, x.2.2.2.2.2.2.2.2.2.2.1, x.2.2.2.2.2.2.2.2.2.2.2.1, x.2.2.2.2.2.2.2.2.2.2.2.2.1, x.2.2.2.2.2.2.2.2.2.2.2.2.2.1, x.2.2.2.2.2.2.2.2.2.2.2.2.2.2))
     else
      if a1 < (0 : Int32) then
       ((0 : Int32), ((2 : Int32), x.2.1, x.2.2.1, x.2.2.2.1, x.2.2.2.2.1, x.2.2.2.2.2.1, x.2.2.2.2.2.2.1, x.2.2.2.2.2.2.2.1, x.2.2.2.2.2.2.2.2.1, x.2.2.2.2.2.2.2.2.2.1, x.2.2.2.2.2.2.2.2.2.2.1, x.2.2.2.2.2.2.2.2.2.2.2.1, x.2.2.2.2.2.2.2.2.2.2.2.2.1, x.2.2.2.2.2.2.2.2.2.2.2.2.2.1, x.2.2.2.2.2.2.2.2.2.2.2.2.2.2))
      else
       if (4095 : Int32) < a1 then
        ((0 : Int32), ((2 : Int32), x.2.1, x.2.2.1, x.2.2.2.1, x.2.2.2.2.1, x.2.2.2.2.2.1, x.2.2.2.2.2.2.1, x.2.2.2.2.2.2.2.1, x.2.2.2.2.2.2.2.2.1, x.2.2.2.2.2.2.2.2.2.1, x.2.2.2.2.2.2.2.2.2.2.1, x.2.2.2.2.2.2.2.2.2.2.2.1, x.2.2.2.2.2.2.2.2.2.2.2.2.1, x.2.2.2.2.2.2.2.2.2.2.2.2.2.1, x.2.2.2.2.2.2.2.2.2.2.2.2.2.2))
       else
        if a3 < (0 : Int32) then
         ((0 : Int32), ((2 : Int32), x.2.1, x.2.2.1, x.2.2.2.1, x.2.2.2.2.1, x.2.2.2.2.2.1, x.2.2.2.2.2.2.1, x.2.2.2.2.2.2.2.1, x.2.2.2.2.2.2.2.2.1, x.2.2.2.2.2.2.2.2.2.1, x.2.2.2.2.2.2.2.2.2.2.1, x.2.2.2.2.2.2.2.2.2.2.2.1, x.2.2.2.2.2.2.2.2.2.2.2.2.1, x.2.2.2.2.2.2.2.2.2.2.2.2.2.1, x.2.2.2.2.2.2.2.2.2.2.2.2.2.2))
        else
         if a3 ≤ (2 : Int32) then
          let p9 := fnX5_findDescriptor ((0 : Int32), x.2.1, x.2.2.1, x.2.2.2.1, x.2.2.2.2.1, x.2.2.2.2.2.1, x.2.2.2.2.2.2.1, x.2.2.2.2.2.2.2.1, x.2.2.2.2.2.2.2.2.1, x.2.2.2.2.2.2.2.2.2.1, x.2.2.2.2.2.2.2.2.2.2.1, x.2.2.2.2.2.2.2.2.2.2.2.1, x.2.2.2.2.2.2.2.2.2.2.2.2.1, x.2.2.2.2.2.2.2.2.2.2.2.2.2.1, x.2.2.2.2.2.2.2.2.2.2.2.2.2.2) a0
          if (0 : Int32) ≤ p9 then
           let p11 := fnX5_barred (x.2.2.1.2.2.1 (p9).toNatClampNeg) (x.2.2.1.2.2.2 (p9).toNatClampNeg) a1 a2 a3
           if p11 ≤ (0 : Int32) then
            if ((x.2.2.1.2.2.1 (p9).toNatClampNeg) &&& (17179869184 : Int64)) = (0 : Int64) then
             let p21 := fnX5_bits (x.2.2.1.2.2.1 (p9).toNatClampNeg) (0 : Int32) (12 : Int32)
             (((p21 + a1) &&& (4095 : Int32)), ((0 : Int32), x.2.1, x.2.2.1, x.2.2.2.1, x.2.2.2.2.1, x.2.2.2.2.2.1, x.2.2.2.2.2.2.1, x.2.2.2.2.2.2.2.1, x.2.2.2.2.2.2.2.2.1, x.2.2.2.2.2.2.2.2.2.1, x.2.2.2.2.2.2.2.2.2.2.1, x.2.2.2.2.2.2.2.2.2.2.2.1, x.2.2.2.2.2.2.2.2.2.2.2.2.1, x.2.2.2.2.2.2.2.2.2.2.2.2.2.1, x.2.2.2.2.2.2.2.2.2.2.2.2.2.2))
            else
             let p14 := fnX5_findPage ((0 : Int32), x.2.1, x.2.2.1, x.2.2.2.1, x.2.2.2.2.1, x.2.2.2.2.2.1, x.2.2.2.2.2.2.1, x.2.2.2.2.2.2.2.1, x.2.2.2.2.2.2.2.2.1, x.2.2.2.2.2.2.2.2.2.1, x.2.2.2.2.2.2.2.2.2.2.1, x.2.2.2.2.2.2.2.2.2.2.2.1, x.2.2.2.2.2.2.2.2.2.2.2.2.1, x.2.2.2.2.2.2.2.2.2.2.2.2.2.1, x.2.2.2.2.2.2.2.2.2.2.2.2.2.2) a0 (a1 / (64 : Int32))
             if (0 : Int32) ≤ p14 then
              if ((x.2.2.2.1.2.2 (p14).toNatClampNeg) &&& (34359738368 : Int64)) = (0 : Int64) then
               ((-3 : Int32), ((0 : Int32), x.2.1, x.2.2.1, x.2.2.2.1, x.2.2.2.2.1, x.2.2.2.2.2.1, x.2.2.2.2.2.2.1, x.2.2.2.2.2.2.2.1, x.2.2.2.2.2.2.2.2.1, x.2.2.2.2.2.2.2.2.2.1, x.2.2.2.2.2.2.2.2.2.2.1, x.2.2.2.2.2.2.2.2.2.2.2.1, x.2.2.2.2.2.2.2.2.2.2.2.2.1, x.2.2.2.2.2.2.2.2.2.2.2.2.2.1, x.2.2.2.2.2.2.2.2.2.2.2.2.2.2))
              else
               let p17 := fnX5_bits (x.2.2.2.1.2.2 (p14).toNatClampNeg) (0 : Int32) (6 : Int32)
               ((((64 : Int32) * p17) + (a1 - a1 / (64 : Int32) * (64 : Int32))), ((0 : Int32), x.2.1, x.2.2.1, x.2.2.2.1, x.2.2.2.2.1, x.2.2.2.2.2.1, x.2.2.2.2.2.2.1, x.2.2.2.2.2.2.2.1, x.2.2.2.2.2.2.2.2.1, x.2.2.2.2.2.2.2.2.2.1, x.2.2.2.2.2.2.2.2.2.2.1, x.2.2.2.2.2.2.2.2.2.2.2.1, x.2.2.2.2.2.2.2.2.2.2.2.2.1, x.2.2.2.2.2.2.2.2.2.2.2.2.2.1, x.2.2.2.2.2.2.2.2.2.2.2.2.2.2))
             else
              let p18 := fnX5_bits (x.2.2.1.2.2.1 (p9).toNatClampNeg) (0 : Int32) (12 : Int32)
              if ((x.2.1 (((p18 + (a1 / (64 : Int32))) &&& (4095 : Int32))).toNatClampNeg) &&& (34359738368 : Int64)) = (0 : Int64) then
               ((-3 : Int32), ((0 : Int32), x.2.1, x.2.2.1, x.2.2.2.1, x.2.2.2.2.1, x.2.2.2.2.2.1, x.2.2.2.2.2.2.1, x.2.2.2.2.2.2.2.1, x.2.2.2.2.2.2.2.2.1, x.2.2.2.2.2.2.2.2.2.1, x.2.2.2.2.2.2.2.2.2.2.1, x.2.2.2.2.2.2.2.2.2.2.2.1, x.2.2.2.2.2.2.2.2.2.2.2.2.1, x.2.2.2.2.2.2.2.2.2.2.2.2.2.1, x.2.2.2.2.2.2.2.2.2.2.2.2.2.2))
              else
               let p20 := fnX5_bits (x.2.1 (((p18 + (a1 / (64 : Int32))) &&& (4095 : Int32))).toNatClampNeg) (0 : Int32) (6 : Int32)
               ((((64 : Int32) * p20) + (a1 - a1 / (64 : Int32) * (64 : Int32))), ((0 : Int32), x.2.1, x.2.2.1, x.2.2.2.1, x.2.2.2.2.1, x.2.2.2.2.2.1, x.2.2.2.2.2.2.1, x.2.2.2.2.2.2.2.1, x.2.2.2.2.2.2.2.2.1, x.2.2.2.2.2.2.2.2.2.1, x.2.2.2.2.2.2.2.2.2.2.1, x.2.2.2.2.2.2.2.2.2.2.2.1, x.2.2.2.2.2.2.2.2.2.2.2.2.1, x.2.2.2.2.2.2.2.2.2.2.2.2.2.1, x.2.2.2.2.2.2.2.2.2.2.2.2.2.2))
           else
            (((-1 : Int32) - p11), ((0 : Int32), x.2.1, x.2.2.1, x.2.2.2.1, x.2.2.2.2.1, x.2.2.2.2.2.1, x.2.2.2.2.2.2.1, x.2.2.2.2.2.2.2.1, x.2.2.2.2.2.2.2.2.1, x.2.2.2.2.2.2.2.2.2.1, x.2.2.2.2.2.2.2.2.2.2.1, x.2.2.2.2.2.2.2.2.2.2.2.1, x.2.2.2.2.2.2.2.2.2.2.2.2.1, x.2.2.2.2.2.2.2.2.2.2.2.2.2.1, x.2.2.2.2.2.2.2.2.2.2.2.2.2.2))
          else
           let p22 := fnX5_barred (x.2.1 (((2 : Int32) * a0)).toNatClampNeg) (x.2.1 ((((2 : Int32) * a0) + (1 : Int32))).toNatClampNeg) a1 a2 a3
           if p22 ≤ (0 : Int32) then
            if ((x.2.1 (((2 : Int32) * a0)).toNatClampNeg) &&& (17179869184 : Int64)) = (0 : Int64) then
             let p32 := fnX5_bits (x.2.1 (((2 : Int32) * a0)).toNatClampNeg) (0 : Int32) (12 : Int32)
             (((p32 + a1) &&& (4095 : Int32)), ((0 : Int32), x.2.1, x.2.2.1, x.2.2.2.1, x.2.2.2.2.1, x.2.2.2.2.2.1, x.2.2.2.2.2.2.1, x.2.2.2.2.2.2.2.1, x.2.2.2.2.2.2.2.2.1, x.2.2.2.2.2.2.2.2.2.1, x.2.2.2.2.2.2.2.2.2.2.1, x.2.2.2.2.2.2.2.2.2.2.2.1, x.2.2.2.2.2.2.2.2.2.2.2.2.1, x.2.2.2.2.2.2.2.2.2.2.2.2.2.1, x.2.2.2.2.2.2.2.2.2.2.2.2.2.2))
            else
             let p25 := fnX5_findPage ((0 : Int32), x.2.1, x.2.2.1, x.2.2.2.1, x.2.2.2.2.1, x.2.2.2.2.2.1, x.2.2.2.2.2.2.1, x.2.2.2.2.2.2.2.1, x.2.2.2.2.2.2.2.2.1, x.2.2.2.2.2.2.2.2.2.1, x.2.2.2.2.2.2.2.2.2.2.1, x.2.2.2.2.2.2.2.2.2.2.2.1, x.2.2.2.2.2.2.2.2.2.2.2.2.1, x.2.2.2.2.2.2.2.2.2.2.2.2.2.1, x.2.2.2.2.2.2.2.2.2.2.2.2.2.2) a0 (a1 / (64 : Int32))
             if (0 : Int32) ≤ p25 then
              if ((x.2.2.2.1.2.2 (p25).toNatClampNeg) &&& (34359738368 : Int64)) = (0 : Int64) then
               ((-3 : Int32), ((0 : Int32), x.2.1, x.2.2.1, x.2.2.2.1, x.2.2.2.2.1, x.2.2.2.2.2.1, x.2.2.2.2.2.2.1, x.2.2.2.2.2.2.2.1, x.2.2.2.2.2.2.2.2.1, x.2.2.2.2.2.2.2.2.2.1, x.2.2.2.2.2.2.2.2.2.2.1, x.2.2.2.2.2.2.2.2.2.2.2.1, x.2.2.2.2.2.2.2.2.2.2.2.2.1, x.2.2.2.2.2.2.2.2.2.2.2.2.2.1, x.2.2.2.2.2.2.2.2.2.2.2.2.2.2))
              else
               let p28 := fnX5_bits (x.2.2.2.1.2.2 (p25).toNatClampNeg) (0 : Int32) (6 : Int32)
               ((((64 : Int32) * p28) + (a1 - a1 / (64 : Int32) * (64 : Int32))), ((0 : Int32), x.2.1, x.2.2.1, x.2.2.2.1, x.2.2.2.2.1, x.2.2.2.2.2.1, x.2.2.2.2.2.2.1, x.2.2.2.2.2.2.2.1, x.2.2.2.2.2.2.2.2.1, x.2.2.2.2.2.2.2.2.2.1, x.2.2.2.2.2.2.2.2.2.2.1, x.2.2.2.2.2.2.2.2.2.2.2.1, x.2.2.2.2.2.2.2.2.2.2.2.2.1, x.2.2.2.2.2.2.2.2.2.2.2.2.2.1, x.2.2.2.2.2.2.2.2.2.2.2.2.2.2))
             else
              let p29 := fnX5_bits (x.2.1 (((2 : Int32) * a0)).toNatClampNeg) (0 : Int32) (12 : Int32)
              if ((x.2.1 (((p29 + (a1 / (64 : Int32))) &&& (4095 : Int32))).toNatClampNeg) &&& (34359738368 : Int64)) = (0 : Int64) then
               ((-3 : Int32), ((0 : Int32), x.2.1, x.2.2.1, x.2.2.2.1, x.2.2.2.2.1, x.2.2.2.2.2.1, x.2.2.2.2.2.2.1, x.2.2.2.2.2.2.2.1, x.2.2.2.2.2.2.2.2.1, x.2.2.2.2.2.2.2.2.2.1, x.2.2.2.2.2.2.2.2.2.2.1, x.2.2.2.2.2.2.2.2.2.2.2.1, x.2.2.2.2.2.2.2.2.2.2.2.2.1, x.2.2.2.2.2.2.2.2.2.2.2.2.2.1, x.2.2.2.2.2.2.2.2.2.2.2.2.2.2))
              else
               let p31 := fnX5_bits (x.2.1 (((p29 + (a1 / (64 : Int32))) &&& (4095 : Int32))).toNatClampNeg) (0 : Int32) (6 : Int32)
               ((((64 : Int32) * p31) + (a1 - a1 / (64 : Int32) * (64 : Int32))), ((0 : Int32), x.2.1, x.2.2.1, x.2.2.2.1, x.2.2.2.2.1, x.2.2.2.2.2.1, x.2.2.2.2.2.2.1, x.2.2.2.2.2.2.2.1, x.2.2.2.2.2.2.2.2.1, x.2.2.2.2.2.2.2.2.2.1, x.2.2.2.2.2.2.2.2.2.2.1, x.2.2.2.2.2.2.2.2.2.2.2.1, x.2.2.2.2.2.2.2.2.2.2.2.2.1, x.2.2.2.2.2.2.2.2.2.2.2.2.2.1, x.2.2.2.2.2.2.2.2.2.2.2.2.2.2))
           else
            (((-1 : Int32) - p22), ((0 : Int32), x.2.1, x.2.2.1, x.2.2.2.1, x.2.2.2.2.1, x.2.2.2.2.2.1, x.2.2.2.2.2.2.1, x.2.2.2.2.2.2.2.1, x.2.2.2.2.2.2.2.2.1, x.2.2.2.2.2.2.2.2.2.1, x.2.2.2.2.2.2.2.2.2.2.1, x.2.2.2.2.2.2.2.2.2.2.2.1, x.2.2.2.2.2.2.2.2.2.2.2.2.1, x.2.2.2.2.2.2.2.2.2.2.2.2.2.1, x.2.2.2.2.2.2.2.2.2.2.2.2.2.2))
         else
          ((0 : Int32), ((2 : Int32), x.2.1, x.2.2.1, x.2.2.2.1, x.2.2.2.2.1, x.2.2.2.2.2.1, x.2.2.2.2.2.2.1, x.2.2.2.2.2.2.2.1, x.2.2.2.2.2.2.2.2.1, x.2.2.2.2.2.2.2.2.2.1, x.2.2.2.2.2.2.2.2.2.2.1, x.2.2.2.2.2.2.2.2.2.2.2.1, x.2.2.2.2.2.2.2.2.2.2.2.2.1, x.2.2.2.2.2.2.2.2.2.2.2.2.2.1, x.2.2.2.2.2.2.2.2.2.2.2.2.2.2))
   else
    ((0 : Int32), ((1 : Int32), x.2.1, x.2.2.1, x.2.2.2.1, x.2.2.2.2.1, x.2.2.2.2.2.1, x.2.2.2.2.2.2.1, x.2.2.2.2.2.2.2.1, x.2.2.2.2.2.2.2.2.1, x.2.2.2.2.2.2.2.2.2.1, x.2.2.2.2.2.2.2.2.2.2.1, x.2.2.2.2.2.2.2.2.2.2.2.1, x.2.2.2.2.2.2.2.2.2.2.2.2.1, x.2.2.2.2.2.2.2.2.2.2.2.2.2.1, x.2.2.2.2.2.2.2.2.2.2.2.2.2.2))
abbrev ivX5_reachP (z : Int32 × TM) : Prop := iM z.2
set_option maxRecDepth 100000 in
set_option maxHeartbeats 4000000 in
theorem ivX5_reach (x : TM) (a0 : Int32) (a1 : Int32) (a2 : Int32) (a3 : Int32) (hI : iM x) : ivX5_reachP (fnX5_reach x a0 a1 a2 a3) := by
  unfold fnX5_reach
  try dsimp only
  refine iteI (fun h1 => ?_) (fun h1 => ?_)
  · exact ⟨hI.1, hI.2.1, hI.2.2.1, hI.2.2.2.1, hI.2.2.2.2.1, hI.2.2.2.2.2.1, hI.2.2.2.2.2.2.1, hI.2.2.2.2.2.2.2⟩
  · refine iteI (fun h2 => ?_) (fun h2 => ?_)
    · refine iteI (fun h3 => ?_) (fun h3 => ?_)
      · exact ⟨hI.1, hI.2.1, hI.2.2.1, hI.2.2.2.1, hI.2.2.2.2.1, hI.2.2.2.2.2.1, hI.2.2.2.2.2.2.1, hI.2.2.2.2.2.2.2⟩
      · refine iteI (fun h4 => ?_) (fun h4 => ?_)
        · exact ⟨hI.1, hI.2.1, hI.2.2.1, hI.2.2.2.1, hI.2.2.2.2.1, hI.2.2.2.2.2.1, hI.2.2.2.2.2.2.1, hI.2.2.2.2.2.2.2⟩
        · refine iteI (fun h5 => ?_) (fun h5 => ?_)
          · exact ⟨hI.1, hI.2.1, hI.2.2.1, hI.2.2.2.1, hI.2.2.2.2.1, hI.2.2.2.2.2.1, hI.2.2.2.2.2.2.1, hI.2.2.2.2.2.2.2⟩
          · refine iteI (fun h6 => ?_) (fun h6 => ?_)
            · exact ⟨hI.1, hI.2.1, hI.2.2.1, hI.2.2.2.1, hI.2.2.2.2.1, hI.2.2.2.2.2.1, hI.2.2.2.2.2.2.1, hI.2.2.2.2.2.2.2⟩
            · refine iteI (fun h7 => ?_) (fun h7 => ?_)
              · exact ⟨hI.1, hI.2.1, hI.2.2.1, hI.2.2.2.1, hI.2.2.2.2.1, hI.2.2.2.2.2.1, hI.2.2.2.2.2.2.1, hI.2.2.2.2.2.2.2⟩
              · refine iteI (fun h8 => ?_) (fun h8 => ?_)
                · have j9 : ivX5_findDescriptorP (fnX5_findDescriptor ((0 : Int32), x.2.1, x.2.2.1, x.2.2.2.1, x.2.2.2.2.1, x.2.2.2.2.2.1, x.2.2.2.2.2.2.1, x.2.2.2.2.2.2.2.1, x.2.2.2.2.2.2.2.2.1, x.2.2.2.2.2.2.2.2.2.1, x.2.2.2.2.2.2.2.2.2.2.1, x.2.2.2.2.2.2.2.2.2.2.2.1, x.2.2.2.2.2.2.2.2.2.2.2.2.1, x.2.2.2.2.2.2.2.2.2.2.2.2.2.1, x.2.2.2.2.2.2.2.2.2.2.2.2.2.2) a0) := ivX5_findDescriptor ((0 : Int32), x.2.1, x.2.2.1, x.2.2.2.1, x.2.2.2.2.1, x.2.2.2.2.2.1, x.2.2.2.2.2.2.1, x.2.2.2.2.2.2.2.1, x.2.2.2.2.2.2.2.2.1, x.2.2.2.2.2.2.2.2.2.1, x.2.2.2.2.2.2.2.2.2.2.1, x.2.2.2.2.2.2.2.2.2.2.2.1, x.2.2.2.2.2.2.2.2.2.2.2.2.1, x.2.2.2.2.2.2.2.2.2.2.2.2.2.1, x.2.2.2.2.2.2.2.2.2.2.2.2.2.2) a0 ⟨hI.1, hI.2.1, hI.2.2.1, hI.2.2.2.1, hI.2.2.2.2.1, hI.2.2.2.2.2.1, hI.2.2.2.2.2.2.1, hI.2.2.2.2.2.2.2⟩
                  generalize fnX5_findDescriptor ((0 : Int32), x.2.1, x.2.2.1, x.2.2.2.1, x.2.2.2.2.1, x.2.2.2.2.2.1, x.2.2.2.2.2.2.1, x.2.2.2.2.2.2.2.1, x.2.2.2.2.2.2.2.2.1, x.2.2.2.2.2.2.2.2.2.1, x.2.2.2.2.2.2.2.2.2.2.1, x.2.2.2.2.2.2.2.2.2.2.2.1, x.2.2.2.2.2.2.2.2.2.2.2.2.1, x.2.2.2.2.2.2.2.2.2.2.2.2.2.1, x.2.2.2.2.2.2.2.2.2.2.2.2.2.2) a0 = p9 at j9 ⊢
                  refine iteI (fun h10 => ?_) (fun h10 => ?_)
                  · have j11 : i4 (fnX5_barred (x.2.2.1.2.2.1 (p9).toNatClampNeg) (x.2.2.1.2.2.2 (p9).toNatClampNeg) a1 a2 a3) := (ivX5_barred (x.2.2.1.2.2.1 (p9).toNatClampNeg) (x.2.2.1.2.2.2 (p9).toNatClampNeg) a1 a2 a3)
                    generalize fnX5_barred (x.2.2.1.2.2.1 (p9).toNatClampNeg) (x.2.2.1.2.2.2 (p9).toNatClampNeg) a1 a2 a3 = p11 at j11 ⊢
                    refine iteI (fun h12 => ?_) (fun h12 => ?_)
                    · refine iteI (fun h13 => ?_) (fun h13 => ?_)
                      · have j21 : i12 (fnX5_bits (x.2.2.1.2.2.1 (p9).toNatClampNeg) (0 : Int32) (12 : Int32)) := (f12M (x.2.2.1.2.2.1 (p9).toNatClampNeg) (0 : Int32))
                        generalize fnX5_bits (x.2.2.1.2.2.1 (p9).toNatClampNeg) (0 : Int32) (12 : Int32) = p21 at j21 ⊢
                        exact ⟨hI.1, hI.2.1, hI.2.2.1, hI.2.2.2.1, hI.2.2.2.2.1, hI.2.2.2.2.2.1, hI.2.2.2.2.2.2.1, hI.2.2.2.2.2.2.2⟩
                      · have j14 : ivX5_findPageP (fnX5_findPage ((0 : Int32), x.2.1, x.2.2.1, x.2.2.2.1, x.2.2.2.2.1, x.2.2.2.2.2.1, x.2.2.2.2.2.2.1, x.2.2.2.2.2.2.2.1, x.2.2.2.2.2.2.2.2.1, x.2.2.2.2.2.2.2.2.2.1, x.2.2.2.2.2.2.2.2.2.2.1, x.2.2.2.2.2.2.2.2.2.2.2.1, x.2.2.2.2.2.2.2.2.2.2.2.2.1, x.2.2.2.2.2.2.2.2.2.2.2.2.2.1, x.2.2.2.2.2.2.2.2.2.2.2.2.2.2) a0 (a1 / (64 : Int32))) := ivX5_findPage ((0 : Int32), x.2.1, x.2.2.1, x.2.2.2.1, x.2.2.2.2.1, x.2.2.2.2.2.1, x.2.2.2.2.2.2.1, x.2.2.2.2.2.2.2.1, x.2.2.2.2.2.2.2.2.1, x.2.2.2.2.2.2.2.2.2.1, x.2.2.2.2.2.2.2.2.2.2.1, x.2.2.2.2.2.2.2.2.2.2.2.1, x.2.2.2.2.2.2.2.2.2.2.2.2.1, x.2.2.2.2.2.2.2.2.2.2.2.2.2.1, x.2.2.2.2.2.2.2.2.2.2.2.2.2.2) a0 (a1 / (64 : Int32)) ⟨hI.1, hI.2.1, hI.2.2.1, hI.2.2.2.1, hI.2.2.2.2.1, hI.2.2.2.2.2.1, hI.2.2.2.2.2.2.1, hI.2.2.2.2.2.2.2⟩
                        generalize fnX5_findPage ((0 : Int32), x.2.1, x.2.2.1, x.2.2.2.1, x.2.2.2.2.1, x.2.2.2.2.2.1, x.2.2.2.2.2.2.1, x.2.2.2.2.2.2.2.1, x.2.2.2.2.2.2.2.2.1, x.2.2.2.2.2.2.2.2.2.1, x.2.2.2.2.2.2.2.2.2.2.1, x.2.2.2.2.2.2.2.2.2.2.2.1, x.2.2.2.2.2.2.2.2.2.2.2.2.1, x.2.2.2.2.2.2.2.2.2.2.2.2.2.1, x.2.2.2.2.2.2.2.2.2.2.2.2.2.2) a0 (a1 / (64 : Int32)) = p14 at j14 ⊢
                        refine iteI (fun h15 => ?_) (fun h15 => ?_)
                        · refine iteI (fun h16 => ?_) (fun h16 => ?_)
                          · exact ⟨hI.1, hI.2.1, hI.2.2.1, hI.2.2.2.1, hI.2.2.2.2.1, hI.2.2.2.2.2.1, hI.2.2.2.2.2.2.1, hI.2.2.2.2.2.2.2⟩
                          · have j17 : i6 (fnX5_bits (x.2.2.2.1.2.2 (p14).toNatClampNeg) (0 : Int32) (6 : Int32)) := (f6M (x.2.2.2.1.2.2 (p14).toNatClampNeg) (0 : Int32))
                            generalize fnX5_bits (x.2.2.2.1.2.2 (p14).toNatClampNeg) (0 : Int32) (6 : Int32) = p17 at j17 ⊢
                            exact ⟨hI.1, hI.2.1, hI.2.2.1, hI.2.2.2.1, hI.2.2.2.2.1, hI.2.2.2.2.2.1, hI.2.2.2.2.2.2.1, hI.2.2.2.2.2.2.2⟩
                        · have j18 : i12 (fnX5_bits (x.2.2.1.2.2.1 (p9).toNatClampNeg) (0 : Int32) (12 : Int32)) := (f12M (x.2.2.1.2.2.1 (p9).toNatClampNeg) (0 : Int32))
                          generalize fnX5_bits (x.2.2.1.2.2.1 (p9).toNatClampNeg) (0 : Int32) (12 : Int32) = p18 at j18 ⊢
                          refine iteI (fun h19 => ?_) (fun h19 => ?_)
                          · exact ⟨hI.1, hI.2.1, hI.2.2.1, hI.2.2.2.1, hI.2.2.2.2.1, hI.2.2.2.2.2.1, hI.2.2.2.2.2.2.1, hI.2.2.2.2.2.2.2⟩
                          · have j20 : i6 (fnX5_bits (x.2.1 (((p18 + (a1 / (64 : Int32))) &&& (4095 : Int32))).toNatClampNeg) (0 : Int32) (6 : Int32)) := (f6M (x.2.1 (((p18 + (a1 / (64 : Int32))) &&& (4095 : Int32))).toNatClampNeg) (0 : Int32))
                            generalize fnX5_bits (x.2.1 (((p18 + (a1 / (64 : Int32))) &&& (4095 : Int32))).toNatClampNeg) (0 : Int32) (6 : Int32) = p20 at j20 ⊢
                            exact ⟨hI.1, hI.2.1, hI.2.2.1, hI.2.2.2.1, hI.2.2.2.2.1, hI.2.2.2.2.2.1, hI.2.2.2.2.2.2.1, hI.2.2.2.2.2.2.2⟩
                    · exact ⟨hI.1, hI.2.1, hI.2.2.1, hI.2.2.2.1, hI.2.2.2.2.1, hI.2.2.2.2.2.1, hI.2.2.2.2.2.2.1, hI.2.2.2.2.2.2.2⟩
                  · have j22 : i4 (fnX5_barred (x.2.1 (((2 : Int32) * a0)).toNatClampNeg) (x.2.1 ((((2 : Int32) * a0) + (1 : Int32))).toNatClampNeg) a1 a2 a3) := (ivX5_barred (x.2.1 (((2 : Int32) * a0)).toNatClampNeg) (x.2.1 ((((2 : Int32) * a0) + (1 : Int32))).toNatClampNeg) a1 a2 a3)
                    generalize fnX5_barred (x.2.1 (((2 : Int32) * a0)).toNatClampNeg) (x.2.1 ((((2 : Int32) * a0) + (1 : Int32))).toNatClampNeg) a1 a2 a3 = p22 at j22 ⊢
                    refine iteI (fun h23 => ?_) (fun h23 => ?_)
                    · refine iteI (fun h24 => ?_) (fun h24 => ?_)
                      · have j32 : i12 (fnX5_bits (x.2.1 (((2 : Int32) * a0)).toNatClampNeg) (0 : Int32) (12 : Int32)) := (f12M (x.2.1 (((2 : Int32) * a0)).toNatClampNeg) (0 : Int32))
                        generalize fnX5_bits (x.2.1 (((2 : Int32) * a0)).toNatClampNeg) (0 : Int32) (12 : Int32) = p32 at j32 ⊢
                        exact ⟨hI.1, hI.2.1, hI.2.2.1, hI.2.2.2.1, hI.2.2.2.2.1, hI.2.2.2.2.2.1, hI.2.2.2.2.2.2.1, hI.2.2.2.2.2.2.2⟩
                      · have j25 : ivX5_findPageP (fnX5_findPage ((0 : Int32), x.2.1, x.2.2.1, x.2.2.2.1, x.2.2.2.2.1, x.2.2.2.2.2.1, x.2.2.2.2.2.2.1, x.2.2.2.2.2.2.2.1, x.2.2.2.2.2.2.2.2.1, x.2.2.2.2.2.2.2.2.2.1, x.2.2.2.2.2.2.2.2.2.2.1, x.2.2.2.2.2.2.2.2.2.2.2.1, x.2.2.2.2.2.2.2.2.2.2.2.2.1, x.2.2.2.2.2.2.2.2.2.2.2.2.2.1, x.2.2.2.2.2.2.2.2.2.2.2.2.2.2) a0 (a1 / (64 : Int32))) := ivX5_findPage ((0 : Int32), x.2.1, x.2.2.1, x.2.2.2.1, x.2.2.2.2.1, x.2.2.2.2.2.1, x.2.2.2.2.2.2.1, x.2.2.2.2.2.2.2.1, x.2.2.2.2.2.2.2.2.1, x.2.2.2.2.2.2.2.2.2.1, x.2.2.2.2.2.2.2.2.2.2.1, x.2.2.2.2.2.2.2.2.2.2.2.1, x.2.2.2.2.2.2.2.2.2.2.2.2.1, x.2.2.2.2.2.2.2.2.2.2.2.2.2.1, x.2.2.2.2.2.2.2.2.2.2.2.2.2.2) a0 (a1 / (64 : Int32)) ⟨hI.1, hI.2.1, hI.2.2.1, hI.2.2.2.1, hI.2.2.2.2.1, hI.2.2.2.2.2.1, hI.2.2.2.2.2.2.1, hI.2.2.2.2.2.2.2⟩
                        generalize fnX5_findPage ((0 : Int32), x.2.1, x.2.2.1, x.2.2.2.1, x.2.2.2.2.1, x.2.2.2.2.2.1, x.2.2.2.2.2.2.1, x.2.2.2.2.2.2.2.1, x.2.2.2.2.2.2.2.2.1, x.2.2.2.2.2.2.2.2.2.1, x.2.2.2.2.2.2.2.2.2.2.1, x.2.2.2.2.2.2.2.2.2.2.2.1, x.2.2.2.2.2.2.2.2.2.2.2.2.1, x.2.2.2.2.2.2.2.2.2.2.2.2.2.1, x.2.2.2.2.2.2.2.2.2.2.2.2.2.2) a0 (a1 / (64 : Int32)) = p25 at j25 ⊢
                        refine iteI (fun h26 => ?_) (fun h26 => ?_)
                        · refine iteI (fun h27 => ?_) (fun h27 => ?_)
                          · exact ⟨hI.1, hI.2.1, hI.2.2.1, hI.2.2.2.1, hI.2.2.2.2.1, hI.2.2.2.2.2.1, hI.2.2.2.2.2.2.1, hI.2.2.2.2.2.2.2⟩
                          · have j28 : i6 (fnX5_bits (x.2.2.2.1.2.2 (p25).toNatClampNeg) (0 : Int32) (6 : Int32)) := (f6M (x.2.2.2.1.2.2 (p25).toNatClampNeg) (0 : Int32))
                            generalize fnX5_bits (x.2.2.2.1.2.2 (p25).toNatClampNeg) (0 : Int32) (6 : Int32) = p28 at j28 ⊢
                            exact ⟨hI.1, hI.2.1, hI.2.2.1, hI.2.2.2.1, hI.2.2.2.2.1, hI.2.2.2.2.2.1, hI.2.2.2.2.2.2.1, hI.2.2.2.2.2.2.2⟩
                        · have j29 : i12 (fnX5_bits (x.2.1 (((2 : Int32) * a0)).toNatClampNeg) (0 : Int32) (12 : Int32)) := (f12M (x.2.1 (((2 : Int32) * a0)).toNatClampNeg) (0 : Int32))
                          generalize fnX5_bits (x.2.1 (((2 : Int32) * a0)).toNatClampNeg) (0 : Int32) (12 : Int32) = p29 at j29 ⊢
                          refine iteI (fun h30 => ?_) (fun h30 => ?_)
                          · exact ⟨hI.1, hI.2.1, hI.2.2.1, hI.2.2.2.1, hI.2.2.2.2.1, hI.2.2.2.2.2.1, hI.2.2.2.2.2.2.1, hI.2.2.2.2.2.2.2⟩
                          · have j31 : i6 (fnX5_bits (x.2.1 (((p29 + (a1 / (64 : Int32))) &&& (4095 : Int32))).toNatClampNeg) (0 : Int32) (6 : Int32)) := (f6M (x.2.1 (((p29 + (a1 / (64 : Int32))) &&& (4095 : Int32))).toNatClampNeg) (0 : Int32))
                            generalize fnX5_bits (x.2.1 (((p29 + (a1 / (64 : Int32))) &&& (4095 : Int32))).toNatClampNeg) (0 : Int32) (6 : Int32) = p31 at j31 ⊢
                            exact ⟨hI.1, hI.2.1, hI.2.2.1, hI.2.2.2.1, hI.2.2.2.2.1, hI.2.2.2.2.2.1, hI.2.2.2.2.2.2.1, hI.2.2.2.2.2.2.2⟩
                    · exact ⟨hI.1, hI.2.1, hI.2.2.1, hI.2.2.2.1, hI.2.2.2.2.1, hI.2.2.2.2.2.1, hI.2.2.2.2.2.2.1, hI.2.2.2.2.2.2.2⟩
                · exact ⟨hI.1, hI.2.1, hI.2.2.1, hI.2.2.2.1, hI.2.2.2.2.1, hI.2.2.2.2.2.1, hI.2.2.2.2.2.2.1, hI.2.2.2.2.2.2.2⟩
    · exact ⟨hI.1, hI.2.1, hI.2.2.1, hI.2.2.2.1, hI.2.2.2.2.1, hI.2.2.2.2.2.1, hI.2.2.2.2.2.2.1, hI.2.2.2.2.2.2.2⟩
set_option maxRecDepth 100000 in
set_option maxHeartbeats 4000000 in
theorem okX5_reach (l : Launch) (D : va_G) (cI cJ cP : ClassId) (ad : Nat → Nat) (sz : Nat) (x : TM) (a0 : Int32) (a1 : Int32) (a2 : Int32) (a3 : Int32) (hI : iM x) : Met l yX5_reach (Cond.code yX5_reach cX5_reach 14 (some .int) :: gG) { frames := 2, cells := 0, slots := 0, locals := 52 } (va_Pc [.ref (ad 0), .int a0, .int a1, .int a2, .int a3] (PRE D (tz cI cJ cP) sz (wM cI cJ ad x))) (va_Qi (fun (r : Int32) (u : TM) => (r, u) = fnX5_reach x a0 a1 a2 a3) (AT D (tz cI cJ cP) (va_A (wM cI cJ ad x) sz) (fun (u : TM) => (wM cI cJ ad u))) (va_A (wM cI cJ ad x) sz)) 0 0 (va_A (wM cI cJ ad x) sz) := by
  refine mo (QA := fun A => va_Qi (fun (r : Int32) (u : TM) => (r, u) = fnX5_reach x a0 a1 a2 a3) (AT D (tz cI cJ cP) A (fun (u : TM) => (wM cI cJ ad u))) A) (by decide) (Nat.le_of_ble_eq_true rfl) ?_
  intro p e s m below meth c A ls H hx hb hr hml hown hG hlocks hnm hA hS hP hK hD hl hN
  have hown : s.vm.findClass RX5 = some m.cls := hown
  have hl : lv_has ls 14 [(0, .ref (ad 0)), (1, .int a0), (2, .int a1), (3, .int a2), (4, .int a3)] := hl
  refine lv_aload_n hx hb dX5_reach_0 rfl (lv_at hl 0 rfl) ?_
  refine lv_iload_n hx hb dX5_reach_1 rfl (lv_at hl 1 rfl) ?_
  refine lv_if_lt (tgt := 11) hx hb dX5_reach_2 (by decide) (fun h1 => ?_) (fun h1 => ?_)
  · refine lv_iconst (v := 1) hx hb dX5_reach_11 (by decide) ?_
    refine lv_goto (tgt := 52) hx hb dX5_reach_12 (by decide) ?_
    refine pu (D := D) (ci := 5) (v := .int ((1 : Int32))) (ty := .int) (W' := (wM cI cJ ad ((1 : Int32), x.2.1, x.2.2.1, x.2.2.2.1, x.2.2.2.2.1, x.2.2.2.2.2.1, x.2.2.2.2.2.2.1, x.2.2.2.2.2.2.2.1, x.2.2.2.2.2.2.2.2.1, x.2.2.2.2.2.2.2.2.2.1, x.2.2.2.2.2.2.2.2.2.2.1, x.2.2.2.2.2.2.2.2.2.2.2.1, x.2.2.2.2.2.2.2.2.2.2.2.2.1, x.2.2.2.2.2.2.2.2.2.2.2.2.2.1, x.2.2.2.2.2.2.2.2.2.2.2.2.2.2))) hx hb hG inX5 tyX5 tyokX5 nmX5 hown hK hP hD hS 0 rfl rfl 0 (by decide) (hG _ kw241) (fun _ h9 => h9) rfl (by decide +kernel) rfl rfl (Nat.le_of_ble_eq_true rfl) dX5_reach_52 rfl (fun H locs hP hD hS => ?_)
    refine lv_aload_n hx hb dX5_reach_55 rfl (lv_at hl 0 rfl) ?_
    refine va_get (D := D) (ci := 5) (v := .int ((1 : Int32))) hx hb hG inX5 hown hK hP 0 rfl rfl 0 (by decide) (hG _ kw241) (fun _ h9 => h9) rfl dX5_reach_56 ?_
    refine lv_if_le (tgt := 64) hx hb dX5_reach_59 (by decide) (fun h9 => absurd h9 (by decide)) (fun _ => ?_)
    refine lv_iconst (v := 0) hx hb dX5_reach_62 (by decide) ?_
    exact reti (u := ((1 : Int32), x.2.1, x.2.2.1, x.2.2.2.1, x.2.2.2.2.1, x.2.2.2.2.2.1, x.2.2.2.2.2.2.1, x.2.2.2.2.2.2.2.1, x.2.2.2.2.2.2.2.2.1, x.2.2.2.2.2.2.2.2.2.1, x.2.2.2.2.2.2.2.2.2.2.1, x.2.2.2.2.2.2.2.2.2.2.2.1, x.2.2.2.2.2.2.2.2.2.2.2.2.1, x.2.2.2.2.2.2.2.2.2.2.2.2.2.1, x.2.2.2.2.2.2.2.2.2.2.2.2.2.2)) hx hb hr hlocks hK hP hD hS dX5_reach_63 (by unfold fnX5_reach; (try dsimp only); rw [if_pos h1]; (try exact rfl))
  · refine lv_iload_n hx hb dX5_reach_5 rfl (lv_at hl 1 rfl) ?_
    refine lv_bipush (v := 15) hx hb dX5_reach_6 (by decide) ?_
    refine lv_icmp_le (tgt := 15) hx hb dX5_reach_8 (by decide) (fun h2 => ?_) (fun h2 => ?_)
    · refine lv_iload_n hx hb dX5_reach_15 rfl (lv_at hl 3 rfl) ?_
      refine lv_if_lt (tgt := 47) hx hb dX5_reach_16 (by decide) (fun h3 => ?_) (fun h3 => ?_)
      · refine lv_iconst (v := 2) hx hb dX5_reach_47 (by decide) ?_
        refine lv_goto (tgt := 52) hx hb dX5_reach_48 (by decide) ?_
        refine pu (D := D) (ci := 5) (v := .int ((2 : Int32))) (ty := .int) (W' := (wM cI cJ ad ((2 : Int32), x.2.1, x.2.2.1, x.2.2.2.1, x.2.2.2.2.1, x.2.2.2.2.2.1, x.2.2.2.2.2.2.1, x.2.2.2.2.2.2.2.1, x.2.2.2.2.2.2.2.2.1, x.2.2.2.2.2.2.2.2.2.1, x.2.2.2.2.2.2.2.2.2.2.1, x.2.2.2.2.2.2.2.2.2.2.2.1, x.2.2.2.2.2.2.2.2.2.2.2.2.1, x.2.2.2.2.2.2.2.2.2.2.2.2.2.1, x.2.2.2.2.2.2.2.2.2.2.2.2.2.2))) hx hb hG inX5 tyX5 tyokX5 nmX5 hown hK hP hD hS 0 rfl rfl 0 (by decide) (hG _ kw241) (fun _ h9 => h9) rfl (by decide +kernel) rfl rfl (Nat.le_of_ble_eq_true rfl) dX5_reach_52 rfl (fun H locs hP hD hS => ?_)
        refine lv_aload_n hx hb dX5_reach_55 rfl (lv_at hl 0 rfl) ?_
        refine va_get (D := D) (ci := 5) (v := .int ((2 : Int32))) hx hb hG inX5 hown hK hP 0 rfl rfl 0 (by decide) (hG _ kw241) (fun _ h9 => h9) rfl dX5_reach_56 ?_
        refine lv_if_le (tgt := 64) hx hb dX5_reach_59 (by decide) (fun h9 => absurd h9 (by decide)) (fun _ => ?_)
        refine lv_iconst (v := 0) hx hb dX5_reach_62 (by decide) ?_
        exact reti (u := ((2 : Int32), x.2.1, x.2.2.1, x.2.2.2.1, x.2.2.2.2.1, x.2.2.2.2.2.1, x.2.2.2.2.2.2.1, x.2.2.2.2.2.2.2.1, x.2.2.2.2.2.2.2.2.1, x.2.2.2.2.2.2.2.2.2.1, x.2.2.2.2.2.2.2.2.2.2.1, x.2.2.2.2.2.2.2.2.2.2.2.1, x.2.2.2.2.2.2.2.2.2.2.2.2.1, x.2.2.2.2.2.2.2.2.2.2.2.2.2.1, x.2.2.2.2.2.2.2.2.2.2.2.2.2.2)) hx hb hr hlocks hK hP hD hS dX5_reach_63 (by unfold fnX5_reach; (try dsimp only); rw [if_neg h1]; rw [if_pos h2]; rw [if_pos h3]; (try exact rfl))
      · refine lv_iload_n hx hb dX5_reach_19 rfl (lv_at hl 3 rfl) ?_
        refine lv_bipush (v := 7) hx hb dX5_reach_20 (by decide) ?_
        refine lv_icmp_gt (tgt := 47) hx hb dX5_reach_22 (by decide) (fun h4 => ?_) (fun h4 => ?_)
        · refine lv_iconst (v := 2) hx hb dX5_reach_47 (by decide) ?_
          refine lv_goto (tgt := 52) hx hb dX5_reach_48 (by decide) ?_
          refine pu (D := D) (ci := 5) (v := .int ((2 : Int32))) (ty := .int) (W' := (wM cI cJ ad ((2 : Int32), x.2.1, x.2.2.1, x.2.2.2.1, x.2.2.2.2.1, x.2.2.2.2.2.1, x.2.2.2.2.2.2.1, x.2.2.2.2.2.2.2.1, x.2.2.2.2.2.2.2.2.1, x.2.2.2.2.2.2.2.2.2.1, x.2.2.2.2.2.2.2.2.2.2.1, x.2.2.2.2.2.2.2.2.2.2.2.1, x.2.2.2.2.2.2.2.2.2.2.2.2.1, x.2.2.2.2.2.2.2.2.2.2.2.2.2.1, x.2.2.2.2.2.2.2.2.2.2.2.2.2.2))) hx hb hG inX5 tyX5 tyokX5 nmX5 hown hK hP hD hS 0 rfl rfl 0 (by decide) (hG _ kw241) (fun _ h9 => h9) rfl (by decide +kernel) rfl rfl (Nat.le_of_ble_eq_true rfl) dX5_reach_52 rfl (fun H locs hP hD hS => ?_)
          refine lv_aload_n hx hb dX5_reach_55 rfl (lv_at hl 0 rfl) ?_
          refine va_get (D := D) (ci := 5) (v := .int ((2 : Int32))) hx hb hG inX5 hown hK hP 0 rfl rfl 0 (by decide) (hG _ kw241) (fun _ h9 => h9) rfl dX5_reach_56 ?_
          refine lv_if_le (tgt := 64) hx hb dX5_reach_59 (by decide) (fun h9 => absurd h9 (by decide)) (fun _ => ?_)
          refine lv_iconst (v := 0) hx hb dX5_reach_62 (by decide) ?_
          exact reti (u := ((2 : Int32), x.2.1, x.2.2.1, x.2.2.2.1, x.2.2.2.2.1, x.2.2.2.2.2.1, x.2.2.2.2.2.2.1, x.2.2.2.2.2.2.2.1, x.2.2.2.2.2.2.2.2.1, x.2.2.2.2.2.2.2.2.2.1, x.2.2.2.2.2.2.2.2.2.2.1, x.2.2.2.2.2.2.2.2.2.2.2.1, x.2.2.2.2.2.2.2.2.2.2.2.2.1, x.2.2.2.2.2.2.2.2.2.2.2.2.2.1, x.2.2.2.2.2.2.2.2.2.2.2.2.2.2)) hx hb hr hlocks hK hP hD hS dX5_reach_63 (by unfold fnX5_reach; (try dsimp only); rw [if_neg h1]; rw [if_pos h2]; rw [if_neg h3]; rw [if_pos h4]; (try exact rfl))
        · refine lv_iload_n hx hb dX5_reach_25 rfl (lv_at hl 2 rfl) ?_
          refine lv_if_lt (tgt := 47) hx hb dX5_reach_26 (by decide) (fun h5 => ?_) (fun h5 => ?_)
          · refine lv_iconst (v := 2) hx hb dX5_reach_47 (by decide) ?_
            refine lv_goto (tgt := 52) hx hb dX5_reach_48 (by decide) ?_
            refine pu (D := D) (ci := 5) (v := .int ((2 : Int32))) (ty := .int) (W' := (wM cI cJ ad ((2 : Int32), x.2.1, x.2.2.1, x.2.2.2.1, x.2.2.2.2.1, x.2.2.2.2.2.1, x.2.2.2.2.2.2.1, x.2.2.2.2.2.2.2.1, x.2.2.2.2.2.2.2.2.1, x.2.2.2.2.2.2.2.2.2.1, x.2.2.2.2.2.2.2.2.2.2.1, x.2.2.2.2.2.2.2.2.2.2.2.1, x.2.2.2.2.2.2.2.2.2.2.2.2.1, x.2.2.2.2.2.2.2.2.2.2.2.2.2.1, x.2.2.2.2.2.2.2.2.2.2.2.2.2.2))) hx hb hG inX5 tyX5 tyokX5 nmX5 hown hK hP hD hS 0 rfl rfl 0 (by decide) (hG _ kw241) (fun _ h9 => h9) rfl (by decide +kernel) rfl rfl (Nat.le_of_ble_eq_true rfl) dX5_reach_52 rfl (fun H locs hP hD hS => ?_)
            refine lv_aload_n hx hb dX5_reach_55 rfl (lv_at hl 0 rfl) ?_
            refine va_get (D := D) (ci := 5) (v := .int ((2 : Int32))) hx hb hG inX5 hown hK hP 0 rfl rfl 0 (by decide) (hG _ kw241) (fun _ h9 => h9) rfl dX5_reach_56 ?_
            refine lv_if_le (tgt := 64) hx hb dX5_reach_59 (by decide) (fun h9 => absurd h9 (by decide)) (fun _ => ?_)
            refine lv_iconst (v := 0) hx hb dX5_reach_62 (by decide) ?_
            exact reti (u := ((2 : Int32), x.2.1, x.2.2.1, x.2.2.2.1, x.2.2.2.2.1, x.2.2.2.2.2.1, x.2.2.2.2.2.2.1, x.2.2.2.2.2.2.2.1, x.2.2.2.2.2.2.2.2.1, x.2.2.2.2.2.2.2.2.2.1, x.2.2.2.2.2.2.2.2.2.2.1, x.2.2.2.2.2.2.2.2.2.2.2.1, x.2.2.2.2.2.2.2.2.2.2.2.2.1, x.2.2.2.2.2.2.2.2.2.2.2.2.2.1, x.2.2.2.2.2.2.2.2.2.2.2.2.2.2)) hx hb hr hlocks hK hP hD hS dX5_reach_63 (by unfold fnX5_reach; (try dsimp only); rw [if_neg h1]; rw [if_pos h2]; rw [if_neg h3]; rw [if_neg h4]; rw [if_pos h5]; (try exact rfl))
          · refine lv_iload_n hx hb dX5_reach_29 rfl (lv_at hl 2 rfl) ?_
            refine lv_sipush (v := 4095) hx hb dX5_reach_30 (by decide) ?_
            refine lv_icmp_gt (tgt := 47) hx hb dX5_reach_33 (by decide) (fun h6 => ?_) (fun h6 => ?_)
            · refine lv_iconst (v := 2) hx hb dX5_reach_47 (by decide) ?_
              refine lv_goto (tgt := 52) hx hb dX5_reach_48 (by decide) ?_
              refine pu (D := D) (ci := 5) (v := .int ((2 : Int32))) (ty := .int) (W' := (wM cI cJ ad ((2 : Int32), x.2.1, x.2.2.1, x.2.2.2.1, x.2.2.2.2.1, x.2.2.2.2.2.1, x.2.2.2.2.2.2.1, x.2.2.2.2.2.2.2.1, x.2.2.2.2.2.2.2.2.1, x.2.2.2.2.2.2.2.2.2.1, x.2.2.2.2.2.2.2.2.2.2.1, x.2.2.2.2.2.2.2.2.2.2.2.1, x.2.2.2.2.2.2.2.2.2.2.2.2.1, x.2.2.2.2.2.2.2.2.2.2.2.2.2.1, x.2.2.2.2.2.2.2.2.2.2.2.2.2.2))) hx hb hG inX5 tyX5 tyokX5 nmX5 hown hK hP hD hS 0 rfl rfl 0 (by decide) (hG _ kw241) (fun _ h9 => h9) rfl (by decide +kernel) rfl rfl (Nat.le_of_ble_eq_true rfl) dX5_reach_52 rfl (fun H locs hP hD hS => ?_)
              refine lv_aload_n hx hb dX5_reach_55 rfl (lv_at hl 0 rfl) ?_
              refine va_get (D := D) (ci := 5) (v := .int ((2 : Int32))) hx hb hG inX5 hown hK hP 0 rfl rfl 0 (by decide) (hG _ kw241) (fun _ h9 => h9) rfl dX5_reach_56 ?_
              refine lv_if_le (tgt := 64) hx hb dX5_reach_59 (by decide) (fun h9 => absurd h9 (by decide)) (fun _ => ?_)
              refine lv_iconst (v := 0) hx hb dX5_reach_62 (by decide) ?_
              exact reti (u := ((2 : Int32), x.2.1, x.2.2.1, x.2.2.2.1, x.2.2.2.2.1, x.2.2.2.2.2.1, x.2.2.2.2.2.2.1, x.2.2.2.2.2.2.2.1, x.2.2.2.2.2.2.2.2.1, x.2.2.2.2.2.2.2.2.2.1, x.2.2.2.2.2.2.2.2.2.2.1, x.2.2.2.2.2.2.2.2.2.2.2.1, x.2.2.2.2.2.2.2.2.2.2.2.2.1, x.2.2.2.2.2.2.2.2.2.2.2.2.2.1, x.2.2.2.2.2.2.2.2.2.2.2.2.2.2)) hx hb hr hlocks hK hP hD hS dX5_reach_63 (by unfold fnX5_reach; (try dsimp only); rw [if_neg h1]; rw [if_pos h2]; rw [if_neg h3]; rw [if_neg h4]; rw [if_neg h5]; rw [if_pos h6]; (try exact rfl))
            · refine lv_iload hx hb dX5_reach_36 (lv_at hl 4 rfl) ?_
              refine lv_if_lt (tgt := 47) hx hb dX5_reach_38 (by decide) (fun h7 => ?_) (fun h7 => ?_)
              · refine lv_iconst (v := 2) hx hb dX5_reach_47 (by decide) ?_
                refine lv_goto (tgt := 52) hx hb dX5_reach_48 (by decide) ?_
                refine pu (D := D) (ci := 5) (v := .int ((2 : Int32))) (ty := .int) (W' := (wM cI cJ ad ((2 : Int32), x.2.1, x.2.2.1, x.2.2.2.1, x.2.2.2.2.1, x.2.2.2.2.2.1, x.2.2.2.2.2.2.1, x.2.2.2.2.2.2.2.1, x.2.2.2.2.2.2.2.2.1, x.2.2.2.2.2.2.2.2.2.1, x.2.2.2.2.2.2.2.2.2.2.1, x.2.2.2.2.2.2.2.2.2.2.2.1, x.2.2.2.2.2.2.2.2.2.2.2.2.1, x.2.2.2.2.2.2.2.2.2.2.2.2.2.1, x.2.2.2.2.2.2.2.2.2.2.2.2.2.2))) hx hb hG inX5 tyX5 tyokX5 nmX5 hown hK hP hD hS 0 rfl rfl 0 (by decide) (hG _ kw241) (fun _ h9 => h9) rfl (by decide +kernel) rfl rfl (Nat.le_of_ble_eq_true rfl) dX5_reach_52 rfl (fun H locs hP hD hS => ?_)
                refine lv_aload_n hx hb dX5_reach_55 rfl (lv_at hl 0 rfl) ?_
                refine va_get (D := D) (ci := 5) (v := .int ((2 : Int32))) hx hb hG inX5 hown hK hP 0 rfl rfl 0 (by decide) (hG _ kw241) (fun _ h9 => h9) rfl dX5_reach_56 ?_
                refine lv_if_le (tgt := 64) hx hb dX5_reach_59 (by decide) (fun h9 => absurd h9 (by decide)) (fun _ => ?_)
                refine lv_iconst (v := 0) hx hb dX5_reach_62 (by decide) ?_
                exact reti (u := ((2 : Int32), x.2.1, x.2.2.1, x.2.2.2.1, x.2.2.2.2.1, x.2.2.2.2.2.1, x.2.2.2.2.2.2.1, x.2.2.2.2.2.2.2.1, x.2.2.2.2.2.2.2.2.1, x.2.2.2.2.2.2.2.2.2.1, x.2.2.2.2.2.2.2.2.2.2.1, x.2.2.2.2.2.2.2.2.2.2.2.1, x.2.2.2.2.2.2.2.2.2.2.2.2.1, x.2.2.2.2.2.2.2.2.2.2.2.2.2.1, x.2.2.2.2.2.2.2.2.2.2.2.2.2.2)) hx hb hr hlocks hK hP hD hS dX5_reach_63 (by unfold fnX5_reach; (try dsimp only); rw [if_neg h1]; rw [if_pos h2]; rw [if_neg h3]; rw [if_neg h4]; rw [if_neg h5]; rw [if_neg h6]; rw [if_pos h7]; (try exact rfl))
              · refine lv_iload hx hb dX5_reach_41 (lv_at hl 4 rfl) ?_
                refine lv_iconst (v := 2) hx hb dX5_reach_43 (by decide) ?_
                refine lv_icmp_le (tgt := 51) hx hb dX5_reach_44 (by decide) (fun h8 => ?_) (fun h8 => ?_)
                · refine lv_iconst (v := 0) hx hb dX5_reach_51 (by decide) ?_
                  refine pu (D := D) (ci := 5) (v := .int ((0 : Int32))) (ty := .int) (W' := (wM cI cJ ad ((0 : Int32), x.2.1, x.2.2.1, x.2.2.2.1, x.2.2.2.2.1, x.2.2.2.2.2.1, x.2.2.2.2.2.2.1, x.2.2.2.2.2.2.2.1, x.2.2.2.2.2.2.2.2.1, x.2.2.2.2.2.2.2.2.2.1, x.2.2.2.2.2.2.2.2.2.2.1, x.2.2.2.2.2.2.2.2.2.2.2.1, x.2.2.2.2.2.2.2.2.2.2.2.2.1, x.2.2.2.2.2.2.2.2.2.2.2.2.2.1, x.2.2.2.2.2.2.2.2.2.2.2.2.2.2))) hx hb hG inX5 tyX5 tyokX5 nmX5 hown hK hP hD hS 0 rfl rfl 0 (by decide) (hG _ kw241) (fun _ h9 => h9) rfl (by decide +kernel) rfl rfl (Nat.le_of_ble_eq_true rfl) dX5_reach_52 rfl (fun H locs hP hD hS => ?_)
                  refine lv_aload_n hx hb dX5_reach_55 rfl (lv_at hl 0 rfl) ?_
                  refine va_get (D := D) (ci := 5) (v := .int ((0 : Int32))) hx hb hG inX5 hown hK hP 0 rfl rfl 0 (by decide) (hG _ kw241) (fun _ h9 => h9) rfl dX5_reach_56 ?_
                  refine lv_if_le (tgt := 64) hx hb dX5_reach_59 (by decide) (fun _ => ?_) (fun h9 => absurd (by decide) h9)
                  refine lv_aload_n hx hb dX5_reach_64 rfl (lv_at hl 0 rfl) ?_
                  refine lv_iload_n hx hb dX5_reach_65 rfl (lv_at hl 1 rfl) ?_
                  refine kFi (As := [.int (a0)]) (rest := []) hx hb hml hown hG hl (okX5_findDescriptor l D cI cJ cP ad H.size ((0 : Int32), x.2.1, x.2.2.1, x.2.2.2.1, x.2.2.2.2.1, x.2.2.2.2.2.1, x.2.2.2.2.2.2.1, x.2.2.2.2.2.2.2.1, x.2.2.2.2.2.2.2.2.1, x.2.2.2.2.2.2.2.2.2.1, x.2.2.2.2.2.2.2.2.2.2.1, x.2.2.2.2.2.2.2.2.2.2.2.1, x.2.2.2.2.2.2.2.2.2.2.2.2.1, x.2.2.2.2.2.2.2.2.2.2.2.2.2.1, x.2.2.2.2.2.2.2.2.2.2.2.2.2.2) a0 ⟨hI.1, hI.2.1, hI.2.2.1, hI.2.2.2.1, hI.2.2.2.2.1, hI.2.2.2.2.2.1, hI.2.2.2.2.2.2.1, hI.2.2.2.2.2.2.2⟩) (cV 1 hG kw255 kw256 kw257 kw258 kw238 hdX5_findDescriptor ⟨by decide, by decide⟩) 0 5 rfl rfl hK hP hD hS hA hN rfl rfl (Nat.le_of_ble_eq_true rfl) dX5_reach_66 ⟨Nat.zero_le _, Nat.zero_le _⟩ (fun r9 _ q9 H locs hP hD hS => ?_)
                  have j9 : ivX5_findDescriptorP r9 := by rw [q9]; exact ivX5_findDescriptor ((0 : Int32), x.2.1, x.2.2.1, x.2.2.2.1, x.2.2.2.2.1, x.2.2.2.2.2.1, x.2.2.2.2.2.2.1, x.2.2.2.2.2.2.2.1, x.2.2.2.2.2.2.2.2.1, x.2.2.2.2.2.2.2.2.2.1, x.2.2.2.2.2.2.2.2.2.2.1, x.2.2.2.2.2.2.2.2.2.2.2.1, x.2.2.2.2.2.2.2.2.2.2.2.2.1, x.2.2.2.2.2.2.2.2.2.2.2.2.2.1, x.2.2.2.2.2.2.2.2.2.2.2.2.2.2) a0 ⟨hI.1, hI.2.1, hI.2.2.1, hI.2.2.2.1, hI.2.2.2.2.1, hI.2.2.2.2.2.1, hI.2.2.2.2.2.2.1, hI.2.2.2.2.2.2.2⟩
                  refine lv_istore (lv' := [(5, .int (r9)), (0, .ref (ad 0)), (1, .int (a0)), (2, .int (a1)), (3, .int (a2)), (4, .int (a3))]) hx hb dX5_reach_69 hl (by decide) rfl (fun ls hl => ?_)
                  refine lv_iload hx hb dX5_reach_71 (lv_at hl 0 rfl) ?_
                  refine lv_if_ge (tgt := 87) hx hb dX5_reach_73 (by decide) (fun h10 => ?_) (fun h10 => ?_)
                  · refine lv_aload_n hx hb dX5_reach_87 rfl (lv_at hl 1 rfl) ?_
                    refine va_get (D := D) (ci := 5) (v := .ref (ad 4)) hx hb hG inX5 hown hK hP 0 rfl rfl 6 (by decide) (hG _ kw259) (fun _ h9 => h9) rfl dX5_reach_88 ?_
                    refine lv_iload hx hb dX5_reach_91 (lv_at hl 0 rfl) ?_
                    refine gl (D := D) (j := (r9).toNatClampNeg) (f := x.2.2.1.2.2.1) hx hb hK hP 4 1 rfl rfl (in2_5 (plN j9 (Int32.not_lt.mpr h10))) rfl dX5_reach_93 ?_
                    refine lv_lstore (lv' := [(6, .long ((x.2.2.1.2.2.1 (r9).toNatClampNeg))), (5, .int (r9)), (0, .ref (ad 0)), (1, .int (a0)), (2, .int (a1)), (3, .int (a2)), (4, .int (a3))]) hx hb dX5_reach_94 hl (by decide) rfl (fun ls hl => ?_)
                    refine lv_iload hx hb dX5_reach_96 (lv_at hl 1 rfl) ?_
                    refine lv_if_ge (tgt := 114) hx hb dX5_reach_98 (by decide) (fun _ => ?_) (fun h9 => absurd h10 h9)
                    refine lv_aload_n hx hb dX5_reach_114 rfl (lv_at hl 2 rfl) ?_
                    refine va_get (D := D) (ci := 5) (v := .ref (ad 5)) hx hb hG inX5 hown hK hP 0 rfl rfl 7 (by decide) (hG _ kw261) (fun _ h9 => h9) rfl dX5_reach_115 ?_
                    refine lv_iload hx hb dX5_reach_118 (lv_at hl 1 rfl) ?_
                    refine gl (D := D) (j := (r9).toNatClampNeg) (f := x.2.2.1.2.2.2) hx hb hK hP 5 1 rfl rfl (in2_5 (plN j9 (Int32.not_lt.mpr h10))) rfl dX5_reach_120 ?_
                    refine lv_lstore (lv' := [(8, .long ((x.2.2.1.2.2.2 (r9).toNatClampNeg))), (6, .long ((x.2.2.1.2.2.1 (r9).toNatClampNeg))), (5, .int (r9)), (0, .ref (ad 0)), (1, .int (a0)), (2, .int (a1)), (3, .int (a2)), (4, .int (a3))]) hx hb dX5_reach_121 hl (by decide) rfl (fun ls hl => ?_)
                    refine lv_lload hx hb dX5_reach_123 (lv_at hl 1 rfl) ?_
                    refine lv_lload hx hb dX5_reach_125 (lv_at hl 0 rfl) ?_
                    refine lv_iload_n hx hb dX5_reach_127 rfl (lv_at hl 5 rfl) ?_
                    refine lv_iload_n hx hb dX5_reach_128 rfl (lv_at hl 6 rfl) ?_
                    refine lv_iload hx hb dX5_reach_129 (lv_at hl 7 rfl) ?_
                    refine k0Si (As := [.long ((x.2.2.1.2.2.1 (r9).toNatClampNeg)), .long ((x.2.2.1.2.2.2 (r9).toNatClampNeg)), .int (a1), .int (a2), .int (a3)]) (rest := []) hx hb hml hown hG hl (okX5_barred l D cI cJ cP  H.size (x.2.2.1.2.2.1 (r9).toNatClampNeg) (x.2.2.1.2.2.2 (r9).toNatClampNeg) a1 a2 a3 ) (cS 5 hG kw274 kw275 kw276 kw238 hdX5_barred ⟨by decide, by decide⟩) hK hP hD hS hA hN rfl rfl (Nat.le_of_ble_eq_true rfl) dX5_reach_131 ⟨Nat.zero_le _, Nat.zero_le _⟩ (fun r11 q11 H locs hP hD hS => ?_)
                    have j11 : i4 r11 := by rw [q11]; exact (ivX5_barred (x.2.2.1.2.2.1 (r9).toNatClampNeg) (x.2.2.1.2.2.2 (r9).toNatClampNeg) a1 a2 a3)
                    refine lv_istore (lv' := [(10, .int (r11)), (8, .long ((x.2.2.1.2.2.2 (r9).toNatClampNeg))), (6, .long ((x.2.2.1.2.2.1 (r9).toNatClampNeg))), (5, .int (r9)), (0, .ref (ad 0)), (1, .int (a0)), (2, .int (a1)), (3, .int (a2)), (4, .int (a3))]) hx hb dX5_reach_134 hl (by decide) rfl (fun ls hl => ?_)
                    refine lv_iload hx hb dX5_reach_136 (lv_at hl 0 rfl) ?_
                    refine lv_if_le (tgt := 146) hx hb dX5_reach_138 (by decide) (fun h12 => ?_) (fun h12 => ?_)
                    · refine lv_lload hx hb dX5_reach_146 (lv_at hl 2 rfl) ?_
                      refine lv_ldc2 (v := 17179869184) hx hb hown (hG _ kw269) dX5_reach_148 ?_
                      refine lv_land hx hb dX5_reach_151 ?_
                      refine lv_lconst (v := 0) hx hb dX5_reach_152 (by decide) ?_
                      refine lq_ne (tgt := 172) hx hb dX5_reach_153 dX5_reach_154 (by decide) (fun h13 => ?_) (fun h13 => ?_)
                      · refine lv_aload_n hx hb dX5_reach_172 rfl (lv_at hl 4 rfl) ?_
                        refine lv_iload_n hx hb dX5_reach_173 rfl (lv_at hl 5 rfl) ?_
                        refine lv_iload_n hx hb dX5_reach_174 rfl (lv_at hl 6 rfl) ?_
                        refine lv_bipush (v := 64) hx hb dX5_reach_175 (by decide) ?_
                        refine lv_idiv hx hb dX5_reach_177 (by decide) ?_
                        refine kFi (As := [.int (a0), .int ((a1 / (64 : Int32)))]) (rest := []) hx hb hml hown hG hl (okX5_findPage l D cI cJ cP ad H.size ((0 : Int32), x.2.1, x.2.2.1, x.2.2.2.1, x.2.2.2.2.1, x.2.2.2.2.2.1, x.2.2.2.2.2.2.1, x.2.2.2.2.2.2.2.1, x.2.2.2.2.2.2.2.2.1, x.2.2.2.2.2.2.2.2.2.1, x.2.2.2.2.2.2.2.2.2.2.1, x.2.2.2.2.2.2.2.2.2.2.2.1, x.2.2.2.2.2.2.2.2.2.2.2.2.1, x.2.2.2.2.2.2.2.2.2.2.2.2.2.1, x.2.2.2.2.2.2.2.2.2.2.2.2.2.2) a0 (a1 / (64 : Int32)) ⟨hI.1, hI.2.1, hI.2.2.1, hI.2.2.2.1, hI.2.2.2.2.1, hI.2.2.2.2.2.1, hI.2.2.2.2.2.2.1, hI.2.2.2.2.2.2.2⟩) (cV 2 hG kw264 kw265 kw266 kw267 kw238 hdX5_findPage ⟨by decide, by decide⟩) 0 5 rfl rfl hK hP hD hS hA hN rfl rfl (Nat.le_of_ble_eq_true rfl) dX5_reach_178 ⟨Nat.zero_le _, Nat.zero_le _⟩ (fun r14 _ q14 H locs hP hD hS => ?_)
                        have j14 : ivX5_findPageP r14 := by rw [q14]; exact ivX5_findPage ((0 : Int32), x.2.1, x.2.2.1, x.2.2.2.1, x.2.2.2.2.1, x.2.2.2.2.2.1, x.2.2.2.2.2.2.1, x.2.2.2.2.2.2.2.1, x.2.2.2.2.2.2.2.2.1, x.2.2.2.2.2.2.2.2.2.1, x.2.2.2.2.2.2.2.2.2.2.1, x.2.2.2.2.2.2.2.2.2.2.2.1, x.2.2.2.2.2.2.2.2.2.2.2.2.1, x.2.2.2.2.2.2.2.2.2.2.2.2.2.1, x.2.2.2.2.2.2.2.2.2.2.2.2.2.2) a0 (a1 / (64 : Int32)) ⟨hI.1, hI.2.1, hI.2.2.1, hI.2.2.2.1, hI.2.2.2.2.1, hI.2.2.2.2.2.1, hI.2.2.2.2.2.2.1, hI.2.2.2.2.2.2.2⟩
                        refine lv_istore (lv' := [(11, .int (r14)), (10, .int (r11)), (8, .long ((x.2.2.1.2.2.2 (r9).toNatClampNeg))), (6, .long ((x.2.2.1.2.2.1 (r9).toNatClampNeg))), (5, .int (r9)), (0, .ref (ad 0)), (1, .int (a0)), (2, .int (a1)), (3, .int (a2)), (4, .int (a3))]) hx hb dX5_reach_181 hl (by decide) rfl (fun ls hl => ?_)
                        refine lv_iload hx hb dX5_reach_183 (lv_at hl 0 rfl) ?_
                        refine lv_if_ge (tgt := 213) hx hb dX5_reach_185 (by decide) (fun h15 => ?_) (fun h15 => ?_)
                        · refine lv_aload_n hx hb dX5_reach_213 rfl (lv_at hl 5 rfl) ?_
                          refine va_get (D := D) (ci := 5) (v := .ref (ad 6)) hx hb hG inX5 hown hK hP 0 rfl rfl 8 (by decide) (hG _ kw268) (fun _ h9 => h9) rfl dX5_reach_214 ?_
                          refine lv_iload hx hb dX5_reach_217 (lv_at hl 0 rfl) ?_
                          refine gl (D := D) (j := (r14).toNatClampNeg) (f := x.2.2.2.1.2.2) hx hb hK hP 6 1 rfl rfl (in2_5 (plN j14 (Int32.not_lt.mpr h15))) rfl dX5_reach_219 ?_
                          refine lv_lstore (lv' := [(12, .long ((x.2.2.2.1.2.2 (r14).toNatClampNeg))), (11, .int (r14)), (10, .int (r11)), (8, .long ((x.2.2.1.2.2.2 (r9).toNatClampNeg))), (6, .long ((x.2.2.1.2.2.1 (r9).toNatClampNeg))), (5, .int (r9)), (0, .ref (ad 0)), (1, .int (a0)), (2, .int (a1)), (3, .int (a2)), (4, .int (a3))]) hx hb dX5_reach_220 hl (by decide) rfl (fun ls hl => ?_)
                          refine lv_lload hx hb dX5_reach_222 (lv_at hl 0 rfl) ?_
                          refine lv_ldc2 (v := 34359738368) hx hb hown (hG _ kw236) dX5_reach_224 ?_
                          refine lv_land hx hb dX5_reach_227 ?_
                          refine lv_lconst (v := 0) hx hb dX5_reach_228 (by decide) ?_
                          refine lq_ne (tgt := 238) hx hb dX5_reach_229 dX5_reach_230 (by decide) (fun h16 => ?_) (fun h16 => ?_)
                          · refine lv_bipush (v := 64) hx hb dX5_reach_238 (by decide) ?_
                            refine lv_lload hx hb dX5_reach_240 (lv_at hl 0 rfl) ?_
                            refine lv_iconst (v := 0) hx hb dX5_reach_242 (by decide) ?_
                            refine lv_bipush (v := 6) hx hb dX5_reach_243 (by decide) ?_
                            refine k0Si (As := [.long ((x.2.2.2.1.2.2 (r14).toNatClampNeg)), .int ((0 : Int32)), .int ((6 : Int32))]) (rest := [.int ((64 : Int32))]) hx hb hml hown hG hl (okX5_bits l D cI cJ cP  H.size (x.2.2.2.1.2.2 (r14).toNatClampNeg) (0 : Int32) (6 : Int32) ) (cS 3 hG kw237 kw239 kw240 kw238 hdX5_bits ⟨by decide, by decide⟩) hK hP hD hS hA hN rfl rfl (Nat.le_of_ble_eq_true rfl) dX5_reach_245 ⟨Nat.zero_le _, Nat.zero_le _⟩ (fun r17 q17 H locs hP hD hS => ?_)
                            have j17 : i6 r17 := by rw [q17]; exact (f6M (x.2.2.2.1.2.2 (r14).toNatClampNeg) (0 : Int32))
                            refine lv_imul hx hb dX5_reach_248 ?_
                            refine lv_iload_n hx hb dX5_reach_249 rfl (lv_at hl 8 rfl) ?_
                            refine lv_bipush (v := 64) hx hb dX5_reach_250 (by decide) ?_
                            refine lv_irem hx hb dX5_reach_252 (by decide) ?_
                            refine lv_iadd hx hb dX5_reach_253 ?_
                            exact reti (u := ((0 : Int32), x.2.1, x.2.2.1, x.2.2.2.1, x.2.2.2.2.1, x.2.2.2.2.2.1, x.2.2.2.2.2.2.1, x.2.2.2.2.2.2.2.1, x.2.2.2.2.2.2.2.2.1, x.2.2.2.2.2.2.2.2.2.1, x.2.2.2.2.2.2.2.2.2.2.1, x.2.2.2.2.2.2.2.2.2.2.2.1, x.2.2.2.2.2.2.2.2.2.2.2.2.1, x.2.2.2.2.2.2.2.2.2.2.2.2.2.1, x.2.2.2.2.2.2.2.2.2.2.2.2.2.2)) hx hb hr hlocks hK hP hD hS dX5_reach_254 (by unfold fnX5_reach; (try dsimp only); rw [if_neg h1]; rw [if_pos h2]; rw [if_neg h3]; rw [if_neg h4]; rw [if_neg h5]; rw [if_neg h6]; rw [if_neg h7]; rw [if_pos h8]; rw [← q9]; (try dsimp only); rw [if_pos h10]; rw [← q11]; (try dsimp only); rw [if_pos h12]; rw [if_neg h13]; rw [← q14]; (try dsimp only); rw [if_pos h15]; rw [if_neg h16]; rw [← q17]; (try dsimp only); (try exact rfl))
                          · refine lv_bipush (v := (-3)) hx hb dX5_reach_233 (by decide) ?_
                            refine lv_goto (tgt := 254) hx hb dX5_reach_235 (by decide) ?_
                            exact reti (u := ((0 : Int32), x.2.1, x.2.2.1, x.2.2.2.1, x.2.2.2.2.1, x.2.2.2.2.2.1, x.2.2.2.2.2.2.1, x.2.2.2.2.2.2.2.1, x.2.2.2.2.2.2.2.2.1, x.2.2.2.2.2.2.2.2.2.1, x.2.2.2.2.2.2.2.2.2.2.1, x.2.2.2.2.2.2.2.2.2.2.2.1, x.2.2.2.2.2.2.2.2.2.2.2.2.1, x.2.2.2.2.2.2.2.2.2.2.2.2.2.1, x.2.2.2.2.2.2.2.2.2.2.2.2.2.2)) hx hb hr hlocks hK hP hD hS dX5_reach_254 (by unfold fnX5_reach; (try dsimp only); rw [if_neg h1]; rw [if_pos h2]; rw [if_neg h3]; rw [if_neg h4]; rw [if_neg h5]; rw [if_neg h6]; rw [if_neg h7]; rw [if_pos h8]; rw [← q9]; (try dsimp only); rw [if_pos h10]; rw [← q11]; (try dsimp only); rw [if_pos h12]; rw [if_neg h13]; rw [← q14]; (try dsimp only); rw [if_pos h15]; rw [if_pos h16]; (try exact rfl))
                        · refine lv_aload_n hx hb dX5_reach_188 rfl (lv_at hl 5 rfl) ?_
                          refine va_get (D := D) (ci := 5) (v := .ref (ad 1)) hx hb hG inX5 hown hK hP 0 rfl rfl 1 (by decide) (hG _ kw263) (fun _ h9 => h9) rfl dX5_reach_189 ?_
                          refine lv_lload hx hb dX5_reach_192 (lv_at hl 3 rfl) ?_
                          refine lv_iconst (v := 0) hx hb dX5_reach_194 (by decide) ?_
                          refine lv_bipush (v := 12) hx hb dX5_reach_195 (by decide) ?_
                          refine k0Si (As := [.long ((x.2.2.1.2.2.1 (r9).toNatClampNeg)), .int ((0 : Int32)), .int ((12 : Int32))]) (rest := [.ref (ad 1)]) hx hb hml hown hG hl (okX5_bits l D cI cJ cP  H.size (x.2.2.1.2.2.1 (r9).toNatClampNeg) (0 : Int32) (12 : Int32) ) (cS 3 hG kw237 kw239 kw240 kw238 hdX5_bits ⟨by decide, by decide⟩) hK hP hD hS hA hN rfl rfl (Nat.le_of_ble_eq_true rfl) dX5_reach_197 ⟨Nat.zero_le _, Nat.zero_le _⟩ (fun r18 q18 H locs hP hD hS => ?_)
                          have j18 : i12 r18 := by rw [q18]; exact (f12M (x.2.2.1.2.2.1 (r9).toNatClampNeg) (0 : Int32))
                          refine lv_iload_n hx hb dX5_reach_200 rfl (lv_at hl 7 rfl) ?_
                          refine lv_bipush (v := 64) hx hb dX5_reach_201 (by decide) ?_
                          refine lv_idiv hx hb dX5_reach_203 (by decide) ?_
                          refine lv_iadd hx hb dX5_reach_204 ?_
                          refine lv_sipush (v := 4095) hx hb dX5_reach_205 (by decide) ?_
                          refine lv_iand hx hb dX5_reach_208 ?_
                          refine gl (D := D) (j := (((r18 + (a1 / (64 : Int32))) &&& (4095 : Int32))).toNatClampNeg) (f := x.2.1) hx hb hK hP 1 1 rfl rfl (in12 (mk12 _)) rfl dX5_reach_209 ?_
                          refine lv_goto (tgt := 220) hx hb dX5_reach_210 (by decide) ?_
                          refine lv_lstore (lv' := [(12, .long ((x.2.1 (((r18 + (a1 / (64 : Int32))) &&& (4095 : Int32))).toNatClampNeg))), (11, .int (r14)), (10, .int (r11)), (8, .long ((x.2.2.1.2.2.2 (r9).toNatClampNeg))), (6, .long ((x.2.2.1.2.2.1 (r9).toNatClampNeg))), (5, .int (r9)), (0, .ref (ad 0)), (1, .int (a0)), (2, .int (a1)), (3, .int (a2)), (4, .int (a3))]) hx hb dX5_reach_220 hl (by decide) rfl (fun ls hl => ?_)
                          refine lv_lload hx hb dX5_reach_222 (lv_at hl 0 rfl) ?_
                          refine lv_ldc2 (v := 34359738368) hx hb hown (hG _ kw236) dX5_reach_224 ?_
                          refine lv_land hx hb dX5_reach_227 ?_
                          refine lv_lconst (v := 0) hx hb dX5_reach_228 (by decide) ?_
                          refine lq_ne (tgt := 238) hx hb dX5_reach_229 dX5_reach_230 (by decide) (fun h19 => ?_) (fun h19 => ?_)
                          · refine lv_bipush (v := 64) hx hb dX5_reach_238 (by decide) ?_
                            refine lv_lload hx hb dX5_reach_240 (lv_at hl 0 rfl) ?_
                            refine lv_iconst (v := 0) hx hb dX5_reach_242 (by decide) ?_
                            refine lv_bipush (v := 6) hx hb dX5_reach_243 (by decide) ?_
                            refine k0Si (As := [.long ((x.2.1 (((r18 + (a1 / (64 : Int32))) &&& (4095 : Int32))).toNatClampNeg)), .int ((0 : Int32)), .int ((6 : Int32))]) (rest := [.int ((64 : Int32))]) hx hb hml hown hG hl (okX5_bits l D cI cJ cP  H.size (x.2.1 (((r18 + (a1 / (64 : Int32))) &&& (4095 : Int32))).toNatClampNeg) (0 : Int32) (6 : Int32) ) (cS 3 hG kw237 kw239 kw240 kw238 hdX5_bits ⟨by decide, by decide⟩) hK hP hD hS hA hN rfl rfl (Nat.le_of_ble_eq_true rfl) dX5_reach_245 ⟨Nat.zero_le _, Nat.zero_le _⟩ (fun r20 q20 H locs hP hD hS => ?_)
                            have j20 : i6 r20 := by rw [q20]; exact (f6M (x.2.1 (((r18 + (a1 / (64 : Int32))) &&& (4095 : Int32))).toNatClampNeg) (0 : Int32))
                            refine lv_imul hx hb dX5_reach_248 ?_
                            refine lv_iload_n hx hb dX5_reach_249 rfl (lv_at hl 8 rfl) ?_
                            refine lv_bipush (v := 64) hx hb dX5_reach_250 (by decide) ?_
                            refine lv_irem hx hb dX5_reach_252 (by decide) ?_
                            refine lv_iadd hx hb dX5_reach_253 ?_
                            exact reti (u := ((0 : Int32), x.2.1, x.2.2.1, x.2.2.2.1, x.2.2.2.2.1, x.2.2.2.2.2.1, x.2.2.2.2.2.2.1, x.2.2.2.2.2.2.2.1, x.2.2.2.2.2.2.2.2.1, x.2.2.2.2.2.2.2.2.2.1, x.2.2.2.2.2.2.2.2.2.2.1, x.2.2.2.2.2.2.2.2.2.2.2.1, x.2.2.2.2.2.2.2.2.2.2.2.2.1, x.2.2.2.2.2.2.2.2.2.2.2.2.2.1, x.2.2.2.2.2.2.2.2.2.2.2.2.2.2)) hx hb hr hlocks hK hP hD hS dX5_reach_254 (by unfold fnX5_reach; (try dsimp only); rw [if_neg h1]; rw [if_pos h2]; rw [if_neg h3]; rw [if_neg h4]; rw [if_neg h5]; rw [if_neg h6]; rw [if_neg h7]; rw [if_pos h8]; rw [← q9]; (try dsimp only); rw [if_pos h10]; rw [← q11]; (try dsimp only); rw [if_pos h12]; rw [if_neg h13]; rw [← q14]; (try dsimp only); rw [if_neg h15]; rw [← q18]; (try dsimp only); rw [if_neg h19]; rw [← q20]; (try dsimp only); (try exact rfl))
                          · refine lv_bipush (v := (-3)) hx hb dX5_reach_233 (by decide) ?_
                            refine lv_goto (tgt := 254) hx hb dX5_reach_235 (by decide) ?_
                            exact reti (u := ((0 : Int32), x.2.1, x.2.2.1, x.2.2.2.1, x.2.2.2.2.1, x.2.2.2.2.2.1, x.2.2.2.2.2.2.1, x.2.2.2.2.2.2.2.1, x.2.2.2.2.2.2.2.2.1, x.2.2.2.2.2.2.2.2.2.1, x.2.2.2.2.2.2.2.2.2.2.1, x.2.2.2.2.2.2.2.2.2.2.2.1, x.2.2.2.2.2.2.2.2.2.2.2.2.1, x.2.2.2.2.2.2.2.2.2.2.2.2.2.1, x.2.2.2.2.2.2.2.2.2.2.2.2.2.2)) hx hb hr hlocks hK hP hD hS dX5_reach_254 (by unfold fnX5_reach; (try dsimp only); rw [if_neg h1]; rw [if_pos h2]; rw [if_neg h3]; rw [if_neg h4]; rw [if_neg h5]; rw [if_neg h6]; rw [if_neg h7]; rw [if_pos h8]; rw [← q9]; (try dsimp only); rw [if_pos h10]; rw [← q11]; (try dsimp only); rw [if_pos h12]; rw [if_neg h13]; rw [← q14]; (try dsimp only); rw [if_neg h15]; rw [← q18]; (try dsimp only); rw [if_pos h19]; (try exact rfl))
                      · refine lv_lload hx hb dX5_reach_157 (lv_at hl 2 rfl) ?_
                        refine lv_iconst (v := 0) hx hb dX5_reach_159 (by decide) ?_
                        refine lv_bipush (v := 12) hx hb dX5_reach_160 (by decide) ?_
                        refine k0Si (As := [.long ((x.2.2.1.2.2.1 (r9).toNatClampNeg)), .int ((0 : Int32)), .int ((12 : Int32))]) (rest := []) hx hb hml hown hG hl (okX5_bits l D cI cJ cP  H.size (x.2.2.1.2.2.1 (r9).toNatClampNeg) (0 : Int32) (12 : Int32) ) (cS 3 hG kw237 kw239 kw240 kw238 hdX5_bits ⟨by decide, by decide⟩) hK hP hD hS hA hN rfl rfl (Nat.le_of_ble_eq_true rfl) dX5_reach_162 ⟨Nat.zero_le _, Nat.zero_le _⟩ (fun r21 q21 H locs hP hD hS => ?_)
                        have j21 : i12 r21 := by rw [q21]; exact (f12M (x.2.2.1.2.2.1 (r9).toNatClampNeg) (0 : Int32))
                        refine lv_iload_n hx hb dX5_reach_165 rfl (lv_at hl 6 rfl) ?_
                        refine lv_iadd hx hb dX5_reach_166 ?_
                        refine lv_sipush (v := 4095) hx hb dX5_reach_167 (by decide) ?_
                        refine lv_iand hx hb dX5_reach_170 ?_
                        exact reti (u := ((0 : Int32), x.2.1, x.2.2.1, x.2.2.2.1, x.2.2.2.2.1, x.2.2.2.2.2.1, x.2.2.2.2.2.2.1, x.2.2.2.2.2.2.2.1, x.2.2.2.2.2.2.2.2.1, x.2.2.2.2.2.2.2.2.2.1, x.2.2.2.2.2.2.2.2.2.2.1, x.2.2.2.2.2.2.2.2.2.2.2.1, x.2.2.2.2.2.2.2.2.2.2.2.2.1, x.2.2.2.2.2.2.2.2.2.2.2.2.2.1, x.2.2.2.2.2.2.2.2.2.2.2.2.2.2)) hx hb hr hlocks hK hP hD hS dX5_reach_171 (by unfold fnX5_reach; (try dsimp only); rw [if_neg h1]; rw [if_pos h2]; rw [if_neg h3]; rw [if_neg h4]; rw [if_neg h5]; rw [if_neg h6]; rw [if_neg h7]; rw [if_pos h8]; rw [← q9]; (try dsimp only); rw [if_pos h10]; rw [← q11]; (try dsimp only); rw [if_pos h12]; rw [if_pos h13]; rw [← q21]; (try dsimp only); (try exact rfl))
                    · refine lv_iconst (v := (-1)) hx hb dX5_reach_141 (by decide) ?_
                      refine lv_iload hx hb dX5_reach_142 (lv_at hl 0 rfl) ?_
                      refine lv_isub hx hb dX5_reach_144 ?_
                      exact reti (u := ((0 : Int32), x.2.1, x.2.2.1, x.2.2.2.1, x.2.2.2.2.1, x.2.2.2.2.2.1, x.2.2.2.2.2.2.1, x.2.2.2.2.2.2.2.1, x.2.2.2.2.2.2.2.2.1, x.2.2.2.2.2.2.2.2.2.1, x.2.2.2.2.2.2.2.2.2.2.1, x.2.2.2.2.2.2.2.2.2.2.2.1, x.2.2.2.2.2.2.2.2.2.2.2.2.1, x.2.2.2.2.2.2.2.2.2.2.2.2.2.1, x.2.2.2.2.2.2.2.2.2.2.2.2.2.2)) hx hb hr hlocks hK hP hD hS dX5_reach_145 (by unfold fnX5_reach; (try dsimp only); rw [if_neg h1]; rw [if_pos h2]; rw [if_neg h3]; rw [if_neg h4]; rw [if_neg h5]; rw [if_neg h6]; rw [if_neg h7]; rw [if_pos h8]; rw [← q9]; (try dsimp only); rw [if_pos h10]; rw [← q11]; (try dsimp only); rw [if_neg h12]; (try exact rfl))
                  · refine lv_aload_n hx hb dX5_reach_76 rfl (lv_at hl 1 rfl) ?_
                    refine va_get (D := D) (ci := 5) (v := .ref (ad 1)) hx hb hG inX5 hown hK hP 0 rfl rfl 1 (by decide) (hG _ kw263) (fun _ h9 => h9) rfl dX5_reach_77 ?_
                    refine lv_iconst (v := 2) hx hb dX5_reach_80 (by decide) ?_
                    refine lv_iload_n hx hb dX5_reach_81 rfl (lv_at hl 2 rfl) ?_
                    refine lv_imul hx hb dX5_reach_82 ?_
                    refine gl (D := D) (j := (((2 : Int32) * a0)).toNatClampNeg) (f := x.2.1) hx hb hK hP 1 1 rfl rfl (in12 (seg2 (mkI h1 h2 (by decide))).1) rfl dX5_reach_83 ?_
                    refine lv_goto (tgt := 94) hx hb dX5_reach_84 (by decide) ?_
                    refine lv_lstore (lv' := [(6, .long ((x.2.1 (((2 : Int32) * a0)).toNatClampNeg))), (5, .int (r9)), (0, .ref (ad 0)), (1, .int (a0)), (2, .int (a1)), (3, .int (a2)), (4, .int (a3))]) hx hb dX5_reach_94 hl (by decide) rfl (fun ls hl => ?_)
                    refine lv_iload hx hb dX5_reach_96 (lv_at hl 1 rfl) ?_
                    refine lv_if_ge (tgt := 114) hx hb dX5_reach_98 (by decide) (fun h9 => absurd h9 h10) (fun _ => ?_)
                    refine lv_aload_n hx hb dX5_reach_101 rfl (lv_at hl 2 rfl) ?_
                    refine va_get (D := D) (ci := 5) (v := .ref (ad 1)) hx hb hG inX5 hown hK hP 0 rfl rfl 1 (by decide) (hG _ kw263) (fun _ h9 => h9) rfl dX5_reach_102 ?_
                    refine lv_iconst (v := 2) hx hb dX5_reach_105 (by decide) ?_
                    refine lv_iload_n hx hb dX5_reach_106 rfl (lv_at hl 3 rfl) ?_
                    refine lv_imul hx hb dX5_reach_107 ?_
                    refine lv_iconst (v := 1) hx hb dX5_reach_108 (by decide) ?_
                    refine lv_iadd hx hb dX5_reach_109 ?_
                    refine gl (D := D) (j := ((((2 : Int32) * a0) + (1 : Int32))).toNatClampNeg) (f := x.2.1) hx hb hK hP 1 1 rfl rfl (in12 (seg2 (mkI h1 h2 (by decide))).2) rfl dX5_reach_110 ?_
                    refine lv_goto (tgt := 121) hx hb dX5_reach_111 (by decide) ?_
                    refine lv_lstore (lv' := [(8, .long ((x.2.1 ((((2 : Int32) * a0) + (1 : Int32))).toNatClampNeg))), (6, .long ((x.2.1 (((2 : Int32) * a0)).toNatClampNeg))), (5, .int (r9)), (0, .ref (ad 0)), (1, .int (a0)), (2, .int (a1)), (3, .int (a2)), (4, .int (a3))]) hx hb dX5_reach_121 hl (by decide) rfl (fun ls hl => ?_)
                    refine lv_lload hx hb dX5_reach_123 (lv_at hl 1 rfl) ?_
                    refine lv_lload hx hb dX5_reach_125 (lv_at hl 0 rfl) ?_
                    refine lv_iload_n hx hb dX5_reach_127 rfl (lv_at hl 5 rfl) ?_
                    refine lv_iload_n hx hb dX5_reach_128 rfl (lv_at hl 6 rfl) ?_
                    refine lv_iload hx hb dX5_reach_129 (lv_at hl 7 rfl) ?_
                    refine k0Si (As := [.long ((x.2.1 (((2 : Int32) * a0)).toNatClampNeg)), .long ((x.2.1 ((((2 : Int32) * a0) + (1 : Int32))).toNatClampNeg)), .int (a1), .int (a2), .int (a3)]) (rest := []) hx hb hml hown hG hl (okX5_barred l D cI cJ cP  H.size (x.2.1 (((2 : Int32) * a0)).toNatClampNeg) (x.2.1 ((((2 : Int32) * a0) + (1 : Int32))).toNatClampNeg) a1 a2 a3 ) (cS 5 hG kw274 kw275 kw276 kw238 hdX5_barred ⟨by decide, by decide⟩) hK hP hD hS hA hN rfl rfl (Nat.le_of_ble_eq_true rfl) dX5_reach_131 ⟨Nat.zero_le _, Nat.zero_le _⟩ (fun r22 q22 H locs hP hD hS => ?_)
                    have j22 : i4 r22 := by rw [q22]; exact (ivX5_barred (x.2.1 (((2 : Int32) * a0)).toNatClampNeg) (x.2.1 ((((2 : Int32) * a0) + (1 : Int32))).toNatClampNeg) a1 a2 a3)
                    refine lv_istore (lv' := [(10, .int (r22)), (8, .long ((x.2.1 ((((2 : Int32) * a0) + (1 : Int32))).toNatClampNeg))), (6, .long ((x.2.1 (((2 : Int32) * a0)).toNatClampNeg))), (5, .int (r9)), (0, .ref (ad 0)), (1, .int (a0)), (2, .int (a1)), (3, .int (a2)), (4, .int (a3))]) hx hb dX5_reach_134 hl (by decide) rfl (fun ls hl => ?_)
                    refine lv_iload hx hb dX5_reach_136 (lv_at hl 0 rfl) ?_
                    refine lv_if_le (tgt := 146) hx hb dX5_reach_138 (by decide) (fun h23 => ?_) (fun h23 => ?_)
                    · refine lv_lload hx hb dX5_reach_146 (lv_at hl 2 rfl) ?_
                      refine lv_ldc2 (v := 17179869184) hx hb hown (hG _ kw269) dX5_reach_148 ?_
                      refine lv_land hx hb dX5_reach_151 ?_
                      refine lv_lconst (v := 0) hx hb dX5_reach_152 (by decide) ?_
                      refine lq_ne (tgt := 172) hx hb dX5_reach_153 dX5_reach_154 (by decide) (fun h24 => ?_) (fun h24 => ?_)
                      · refine lv_aload_n hx hb dX5_reach_172 rfl (lv_at hl 4 rfl) ?_
                        refine lv_iload_n hx hb dX5_reach_173 rfl (lv_at hl 5 rfl) ?_
                        refine lv_iload_n hx hb dX5_reach_174 rfl (lv_at hl 6 rfl) ?_
                        refine lv_bipush (v := 64) hx hb dX5_reach_175 (by decide) ?_
                        refine lv_idiv hx hb dX5_reach_177 (by decide) ?_
                        refine kFi (As := [.int (a0), .int ((a1 / (64 : Int32)))]) (rest := []) hx hb hml hown hG hl (okX5_findPage l D cI cJ cP ad H.size ((0 : Int32), x.2.1, x.2.2.1, x.2.2.2.1, x.2.2.2.2.1, x.2.2.2.2.2.1, x.2.2.2.2.2.2.1, x.2.2.2.2.2.2.2.1, x.2.2.2.2.2.2.2.2.1, x.2.2.2.2.2.2.2.2.2.1, x.2.2.2.2.2.2.2.2.2.2.1, x.2.2.2.2.2.2.2.2.2.2.2.1, x.2.2.2.2.2.2.2.2.2.2.2.2.1, x.2.2.2.2.2.2.2.2.2.2.2.2.2.1, x.2.2.2.2.2.2.2.2.2.2.2.2.2.2) a0 (a1 / (64 : Int32)) ⟨hI.1, hI.2.1, hI.2.2.1, hI.2.2.2.1, hI.2.2.2.2.1, hI.2.2.2.2.2.1, hI.2.2.2.2.2.2.1, hI.2.2.2.2.2.2.2⟩) (cV 2 hG kw264 kw265 kw266 kw267 kw238 hdX5_findPage ⟨by decide, by decide⟩) 0 5 rfl rfl hK hP hD hS hA hN rfl rfl (Nat.le_of_ble_eq_true rfl) dX5_reach_178 ⟨Nat.zero_le _, Nat.zero_le _⟩ (fun r25 _ q25 H locs hP hD hS => ?_)
                        have j25 : ivX5_findPageP r25 := by rw [q25]; exact ivX5_findPage ((0 : Int32), x.2.1, x.2.2.1, x.2.2.2.1, x.2.2.2.2.1, x.2.2.2.2.2.1, x.2.2.2.2.2.2.1, x.2.2.2.2.2.2.2.1, x.2.2.2.2.2.2.2.2.1, x.2.2.2.2.2.2.2.2.2.1, x.2.2.2.2.2.2.2.2.2.2.1, x.2.2.2.2.2.2.2.2.2.2.2.1, x.2.2.2.2.2.2.2.2.2.2.2.2.1, x.2.2.2.2.2.2.2.2.2.2.2.2.2.1, x.2.2.2.2.2.2.2.2.2.2.2.2.2.2) a0 (a1 / (64 : Int32)) ⟨hI.1, hI.2.1, hI.2.2.1, hI.2.2.2.1, hI.2.2.2.2.1, hI.2.2.2.2.2.1, hI.2.2.2.2.2.2.1, hI.2.2.2.2.2.2.2⟩
                        refine lv_istore (lv' := [(11, .int (r25)), (10, .int (r22)), (8, .long ((x.2.1 ((((2 : Int32) * a0) + (1 : Int32))).toNatClampNeg))), (6, .long ((x.2.1 (((2 : Int32) * a0)).toNatClampNeg))), (5, .int (r9)), (0, .ref (ad 0)), (1, .int (a0)), (2, .int (a1)), (3, .int (a2)), (4, .int (a3))]) hx hb dX5_reach_181 hl (by decide) rfl (fun ls hl => ?_)
                        refine lv_iload hx hb dX5_reach_183 (lv_at hl 0 rfl) ?_
                        refine lv_if_ge (tgt := 213) hx hb dX5_reach_185 (by decide) (fun h26 => ?_) (fun h26 => ?_)
                        · refine lv_aload_n hx hb dX5_reach_213 rfl (lv_at hl 5 rfl) ?_
                          refine va_get (D := D) (ci := 5) (v := .ref (ad 6)) hx hb hG inX5 hown hK hP 0 rfl rfl 8 (by decide) (hG _ kw268) (fun _ h9 => h9) rfl dX5_reach_214 ?_
                          refine lv_iload hx hb dX5_reach_217 (lv_at hl 0 rfl) ?_
                          refine gl (D := D) (j := (r25).toNatClampNeg) (f := x.2.2.2.1.2.2) hx hb hK hP 6 1 rfl rfl (in2_5 (plN j25 (Int32.not_lt.mpr h26))) rfl dX5_reach_219 ?_
                          refine lv_lstore (lv' := [(12, .long ((x.2.2.2.1.2.2 (r25).toNatClampNeg))), (11, .int (r25)), (10, .int (r22)), (8, .long ((x.2.1 ((((2 : Int32) * a0) + (1 : Int32))).toNatClampNeg))), (6, .long ((x.2.1 (((2 : Int32) * a0)).toNatClampNeg))), (5, .int (r9)), (0, .ref (ad 0)), (1, .int (a0)), (2, .int (a1)), (3, .int (a2)), (4, .int (a3))]) hx hb dX5_reach_220 hl (by decide) rfl (fun ls hl => ?_)
                          refine lv_lload hx hb dX5_reach_222 (lv_at hl 0 rfl) ?_
                          refine lv_ldc2 (v := 34359738368) hx hb hown (hG _ kw236) dX5_reach_224 ?_
                          refine lv_land hx hb dX5_reach_227 ?_
                          refine lv_lconst (v := 0) hx hb dX5_reach_228 (by decide) ?_
                          refine lq_ne (tgt := 238) hx hb dX5_reach_229 dX5_reach_230 (by decide) (fun h27 => ?_) (fun h27 => ?_)
                          · refine lv_bipush (v := 64) hx hb dX5_reach_238 (by decide) ?_
                            refine lv_lload hx hb dX5_reach_240 (lv_at hl 0 rfl) ?_
                            refine lv_iconst (v := 0) hx hb dX5_reach_242 (by decide) ?_
                            refine lv_bipush (v := 6) hx hb dX5_reach_243 (by decide) ?_
                            refine k0Si (As := [.long ((x.2.2.2.1.2.2 (r25).toNatClampNeg)), .int ((0 : Int32)), .int ((6 : Int32))]) (rest := [.int ((64 : Int32))]) hx hb hml hown hG hl (okX5_bits l D cI cJ cP  H.size (x.2.2.2.1.2.2 (r25).toNatClampNeg) (0 : Int32) (6 : Int32) ) (cS 3 hG kw237 kw239 kw240 kw238 hdX5_bits ⟨by decide, by decide⟩) hK hP hD hS hA hN rfl rfl (Nat.le_of_ble_eq_true rfl) dX5_reach_245 ⟨Nat.zero_le _, Nat.zero_le _⟩ (fun r28 q28 H locs hP hD hS => ?_)
                            have j28 : i6 r28 := by rw [q28]; exact (f6M (x.2.2.2.1.2.2 (r25).toNatClampNeg) (0 : Int32))
                            refine lv_imul hx hb dX5_reach_248 ?_
                            refine lv_iload_n hx hb dX5_reach_249 rfl (lv_at hl 8 rfl) ?_
                            refine lv_bipush (v := 64) hx hb dX5_reach_250 (by decide) ?_
                            refine lv_irem hx hb dX5_reach_252 (by decide) ?_
                            refine lv_iadd hx hb dX5_reach_253 ?_
                            exact reti (u := ((0 : Int32), x.2.1, x.2.2.1, x.2.2.2.1, x.2.2.2.2.1, x.2.2.2.2.2.1, x.2.2.2.2.2.2.1, x.2.2.2.2.2.2.2.1, x.2.2.2.2.2.2.2.2.1, x.2.2.2.2.2.2.2.2.2.1, x.2.2.2.2.2.2.2.2.2.2.1, x.2.2.2.2.2.2.2.2.2.2.2.1, x.2.2.2.2.2.2.2.2.2.2.2.2.1, x.2.2.2.2.2.2.2.2.2.2.2.2.2.1, x.2.2.2.2.2.2.2.2.2.2.2.2.2.2)) hx hb hr hlocks hK hP hD hS dX5_reach_254 (by unfold fnX5_reach; (try dsimp only); rw [if_neg h1]; rw [if_pos h2]; rw [if_neg h3]; rw [if_neg h4]; rw [if_neg h5]; rw [if_neg h6]; rw [if_neg h7]; rw [if_pos h8]; rw [← q9]; (try dsimp only); rw [if_neg h10]; rw [← q22]; (try dsimp only); rw [if_pos h23]; rw [if_neg h24]; rw [← q25]; (try dsimp only); rw [if_pos h26]; rw [if_neg h27]; rw [← q28]; (try dsimp only); (try exact rfl))
                          · refine lv_bipush (v := (-3)) hx hb dX5_reach_233 (by decide) ?_
                            refine lv_goto (tgt := 254) hx hb dX5_reach_235 (by decide) ?_
                            exact reti (u := ((0 : Int32), x.2.1, x.2.2.1, x.2.2.2.1, x.2.2.2.2.1, x.2.2.2.2.2.1, x.2.2.2.2.2.2.1, x.2.2.2.2.2.2.2.1, x.2.2.2.2.2.2.2.2.1, x.2.2.2.2.2.2.2.2.2.1, x.2.2.2.2.2.2.2.2.2.2.1, x.2.2.2.2.2.2.2.2.2.2.2.1, x.2.2.2.2.2.2.2.2.2.2.2.2.1, x.2.2.2.2.2.2.2.2.2.2.2.2.2.1, x.2.2.2.2.2.2.2.2.2.2.2.2.2.2)) hx hb hr hlocks hK hP hD hS dX5_reach_254 (by unfold fnX5_reach; (try dsimp only); rw [if_neg h1]; rw [if_pos h2]; rw [if_neg h3]; rw [if_neg h4]; rw [if_neg h5]; rw [if_neg h6]; rw [if_neg h7]; rw [if_pos h8]; rw [← q9]; (try dsimp only); rw [if_neg h10]; rw [← q22]; (try dsimp only); rw [if_pos h23]; rw [if_neg h24]; rw [← q25]; (try dsimp only); rw [if_pos h26]; rw [if_pos h27]; (try exact rfl))
                        · refine lv_aload_n hx hb dX5_reach_188 rfl (lv_at hl 5 rfl) ?_
                          refine va_get (D := D) (ci := 5) (v := .ref (ad 1)) hx hb hG inX5 hown hK hP 0 rfl rfl 1 (by decide) (hG _ kw263) (fun _ h9 => h9) rfl dX5_reach_189 ?_
                          refine lv_lload hx hb dX5_reach_192 (lv_at hl 3 rfl) ?_
                          refine lv_iconst (v := 0) hx hb dX5_reach_194 (by decide) ?_
                          refine lv_bipush (v := 12) hx hb dX5_reach_195 (by decide) ?_
                          refine k0Si (As := [.long ((x.2.1 (((2 : Int32) * a0)).toNatClampNeg)), .int ((0 : Int32)), .int ((12 : Int32))]) (rest := [.ref (ad 1)]) hx hb hml hown hG hl (okX5_bits l D cI cJ cP  H.size (x.2.1 (((2 : Int32) * a0)).toNatClampNeg) (0 : Int32) (12 : Int32) ) (cS 3 hG kw237 kw239 kw240 kw238 hdX5_bits ⟨by decide, by decide⟩) hK hP hD hS hA hN rfl rfl (Nat.le_of_ble_eq_true rfl) dX5_reach_197 ⟨Nat.zero_le _, Nat.zero_le _⟩ (fun r29 q29 H locs hP hD hS => ?_)
                          have j29 : i12 r29 := by rw [q29]; exact (f12M (x.2.1 (((2 : Int32) * a0)).toNatClampNeg) (0 : Int32))
                          refine lv_iload_n hx hb dX5_reach_200 rfl (lv_at hl 7 rfl) ?_
                          refine lv_bipush (v := 64) hx hb dX5_reach_201 (by decide) ?_
                          refine lv_idiv hx hb dX5_reach_203 (by decide) ?_
                          refine lv_iadd hx hb dX5_reach_204 ?_
                          refine lv_sipush (v := 4095) hx hb dX5_reach_205 (by decide) ?_
                          refine lv_iand hx hb dX5_reach_208 ?_
                          refine gl (D := D) (j := (((r29 + (a1 / (64 : Int32))) &&& (4095 : Int32))).toNatClampNeg) (f := x.2.1) hx hb hK hP 1 1 rfl rfl (in12 (mk12 _)) rfl dX5_reach_209 ?_
                          refine lv_goto (tgt := 220) hx hb dX5_reach_210 (by decide) ?_
                          refine lv_lstore (lv' := [(12, .long ((x.2.1 (((r29 + (a1 / (64 : Int32))) &&& (4095 : Int32))).toNatClampNeg))), (11, .int (r25)), (10, .int (r22)), (8, .long ((x.2.1 ((((2 : Int32) * a0) + (1 : Int32))).toNatClampNeg))), (6, .long ((x.2.1 (((2 : Int32) * a0)).toNatClampNeg))), (5, .int (r9)), (0, .ref (ad 0)), (1, .int (a0)), (2, .int (a1)), (3, .int (a2)), (4, .int (a3))]) hx hb dX5_reach_220 hl (by decide) rfl (fun ls hl => ?_)
                          refine lv_lload hx hb dX5_reach_222 (lv_at hl 0 rfl) ?_
                          refine lv_ldc2 (v := 34359738368) hx hb hown (hG _ kw236) dX5_reach_224 ?_
                          refine lv_land hx hb dX5_reach_227 ?_
                          refine lv_lconst (v := 0) hx hb dX5_reach_228 (by decide) ?_
                          refine lq_ne (tgt := 238) hx hb dX5_reach_229 dX5_reach_230 (by decide) (fun h30 => ?_) (fun h30 => ?_)
                          · refine lv_bipush (v := 64) hx hb dX5_reach_238 (by decide) ?_
                            refine lv_lload hx hb dX5_reach_240 (lv_at hl 0 rfl) ?_
                            refine lv_iconst (v := 0) hx hb dX5_reach_242 (by decide) ?_
                            refine lv_bipush (v := 6) hx hb dX5_reach_243 (by decide) ?_
                            refine k0Si (As := [.long ((x.2.1 (((r29 + (a1 / (64 : Int32))) &&& (4095 : Int32))).toNatClampNeg)), .int ((0 : Int32)), .int ((6 : Int32))]) (rest := [.int ((64 : Int32))]) hx hb hml hown hG hl (okX5_bits l D cI cJ cP  H.size (x.2.1 (((r29 + (a1 / (64 : Int32))) &&& (4095 : Int32))).toNatClampNeg) (0 : Int32) (6 : Int32) ) (cS 3 hG kw237 kw239 kw240 kw238 hdX5_bits ⟨by decide, by decide⟩) hK hP hD hS hA hN rfl rfl (Nat.le_of_ble_eq_true rfl) dX5_reach_245 ⟨Nat.zero_le _, Nat.zero_le _⟩ (fun r31 q31 H locs hP hD hS => ?_)
                            have j31 : i6 r31 := by rw [q31]; exact (f6M (x.2.1 (((r29 + (a1 / (64 : Int32))) &&& (4095 : Int32))).toNatClampNeg) (0 : Int32))
                            refine lv_imul hx hb dX5_reach_248 ?_
                            refine lv_iload_n hx hb dX5_reach_249 rfl (lv_at hl 8 rfl) ?_
                            refine lv_bipush (v := 64) hx hb dX5_reach_250 (by decide) ?_
                            refine lv_irem hx hb dX5_reach_252 (by decide) ?_
                            refine lv_iadd hx hb dX5_reach_253 ?_
                            exact reti (u := ((0 : Int32), x.2.1, x.2.2.1, x.2.2.2.1, x.2.2.2.2.1, x.2.2.2.2.2.1, x.2.2.2.2.2.2.1, x.2.2.2.2.2.2.2.1, x.2.2.2.2.2.2.2.2.1, x.2.2.2.2.2.2.2.2.2.1, x.2.2.2.2.2.2.2.2.2.2.1, x.2.2.2.2.2.2.2.2.2.2.2.1, x.2.2.2.2.2.2.2.2.2.2.2.2.1, x.2.2.2.2.2.2.2.2.2.2.2.2.2.1, x.2.2.2.2.2.2.2.2.2.2.2.2.2.2)) hx hb hr hlocks hK hP hD hS dX5_reach_254 (by unfold fnX5_reach; (try dsimp only); rw [if_neg h1]; rw [if_pos h2]; rw [if_neg h3]; rw [if_neg h4]; rw [if_neg h5]; rw [if_neg h6]; rw [if_neg h7]; rw [if_pos h8]; rw [← q9]; (try dsimp only); rw [if_neg h10]; rw [← q22]; (try dsimp only); rw [if_pos h23]; rw [if_neg h24]; rw [← q25]; (try dsimp only); rw [if_neg h26]; rw [← q29]; (try dsimp only); rw [if_neg h30]; rw [← q31]; (try dsimp only); (try exact rfl))
                          · refine lv_bipush (v := (-3)) hx hb dX5_reach_233 (by decide) ?_
                            refine lv_goto (tgt := 254) hx hb dX5_reach_235 (by decide) ?_
                            exact reti (u := ((0 : Int32), x.2.1, x.2.2.1, x.2.2.2.1, x.2.2.2.2.1, x.2.2.2.2.2.1, x.2.2.2.2.2.2.1, x.2.2.2.2.2.2.2.1, x.2.2.2.2.2.2.2.2.1, x.2.2.2.2.2.2.2.2.2.1, x.2.2.2.2.2.2.2.2.2.2.1, x.2.2.2.2.2.2.2.2.2.2.2.1, x.2.2.2.2.2.2.2.2.2.2.2.2.1, x.2.2.2.2.2.2.2.2.2.2.2.2.2.1, x.2.2.2.2.2.2.2.2.2.2.2.2.2.2)) hx hb hr hlocks hK hP hD hS dX5_reach_254 (by unfold fnX5_reach; (try dsimp only); rw [if_neg h1]; rw [if_pos h2]; rw [if_neg h3]; rw [if_neg h4]; rw [if_neg h5]; rw [if_neg h6]; rw [if_neg h7]; rw [if_pos h8]; rw [← q9]; (try dsimp only); rw [if_neg h10]; rw [← q22]; (try dsimp only); rw [if_pos h23]; rw [if_neg h24]; rw [← q25]; (try dsimp only); rw [if_neg h26]; rw [← q29]; (try dsimp only); rw [if_pos h30]; (try exact rfl))
                      · refine lv_lload hx hb dX5_reach_157 (lv_at hl 2 rfl) ?_
                        refine lv_iconst (v := 0) hx hb dX5_reach_159 (by decide) ?_
                        refine lv_bipush (v := 12) hx hb dX5_reach_160 (by decide) ?_
                        refine k0Si (As := [.long ((x.2.1 (((2 : Int32) * a0)).toNatClampNeg)), .int ((0 : Int32)), .int ((12 : Int32))]) (rest := []) hx hb hml hown hG hl (okX5_bits l D cI cJ cP  H.size (x.2.1 (((2 : Int32) * a0)).toNatClampNeg) (0 : Int32) (12 : Int32) ) (cS 3 hG kw237 kw239 kw240 kw238 hdX5_bits ⟨by decide, by decide⟩) hK hP hD hS hA hN rfl rfl (Nat.le_of_ble_eq_true rfl) dX5_reach_162 ⟨Nat.zero_le _, Nat.zero_le _⟩ (fun r32 q32 H locs hP hD hS => ?_)
                        have j32 : i12 r32 := by rw [q32]; exact (f12M (x.2.1 (((2 : Int32) * a0)).toNatClampNeg) (0 : Int32))
                        refine lv_iload_n hx hb dX5_reach_165 rfl (lv_at hl 6 rfl) ?_
                        refine lv_iadd hx hb dX5_reach_166 ?_
                        refine lv_sipush (v := 4095) hx hb dX5_reach_167 (by decide) ?_
                        refine lv_iand hx hb dX5_reach_170 ?_
                        exact reti (u := ((0 : Int32), x.2.1, x.2.2.1, x.2.2.2.1, x.2.2.2.2.1, x.2.2.2.2.2.1, x.2.2.2.2.2.2.1, x.2.2.2.2.2.2.2.1, x.2.2.2.2.2.2.2.2.1, x.2.2.2.2.2.2.2.2.2.1, x.2.2.2.2.2.2.2.2.2.2.1, x.2.2.2.2.2.2.2.2.2.2.2.1, x.2.2.2.2.2.2.2.2.2.2.2.2.1, x.2.2.2.2.2.2.2.2.2.2.2.2.2.1, x.2.2.2.2.2.2.2.2.2.2.2.2.2.2)) hx hb hr hlocks hK hP hD hS dX5_reach_171 (by unfold fnX5_reach; (try dsimp only); rw [if_neg h1]; rw [if_pos h2]; rw [if_neg h3]; rw [if_neg h4]; rw [if_neg h5]; rw [if_neg h6]; rw [if_neg h7]; rw [if_pos h8]; rw [← q9]; (try dsimp only); rw [if_neg h10]; rw [← q22]; (try dsimp only); rw [if_pos h23]; rw [if_pos h24]; rw [← q32]; (try dsimp only); (try exact rfl))
                    · refine lv_iconst (v := (-1)) hx hb dX5_reach_141 (by decide) ?_
                      refine lv_iload hx hb dX5_reach_142 (lv_at hl 0 rfl) ?_
                      refine lv_isub hx hb dX5_reach_144 ?_
                      exact reti (u := ((0 : Int32), x.2.1, x.2.2.1, x.2.2.2.1, x.2.2.2.2.1, x.2.2.2.2.2.1, x.2.2.2.2.2.2.1, x.2.2.2.2.2.2.2.1, x.2.2.2.2.2.2.2.2.1, x.2.2.2.2.2.2.2.2.2.1, x.2.2.2.2.2.2.2.2.2.2.1, x.2.2.2.2.2.2.2.2.2.2.2.1, x.2.2.2.2.2.2.2.2.2.2.2.2.1, x.2.2.2.2.2.2.2.2.2.2.2.2.2.1, x.2.2.2.2.2.2.2.2.2.2.2.2.2.2)) hx hb hr hlocks hK hP hD hS dX5_reach_145 (by unfold fnX5_reach; (try dsimp only); rw [if_neg h1]; rw [if_pos h2]; rw [if_neg h3]; rw [if_neg h4]; rw [if_neg h5]; rw [if_neg h6]; rw [if_neg h7]; rw [if_pos h8]; rw [← q9]; (try dsimp only); rw [if_neg h10]; rw [← q22]; (try dsimp only); rw [if_neg h23]; (try exact rfl))
                · refine lv_iconst (v := 2) hx hb dX5_reach_47 (by decide) ?_
                  refine lv_goto (tgt := 52) hx hb dX5_reach_48 (by decide) ?_
                  refine pu (D := D) (ci := 5) (v := .int ((2 : Int32))) (ty := .int) (W' := (wM cI cJ ad ((2 : Int32), x.2.1, x.2.2.1, x.2.2.2.1, x.2.2.2.2.1, x.2.2.2.2.2.1, x.2.2.2.2.2.2.1, x.2.2.2.2.2.2.2.1, x.2.2.2.2.2.2.2.2.1, x.2.2.2.2.2.2.2.2.2.1, x.2.2.2.2.2.2.2.2.2.2.1, x.2.2.2.2.2.2.2.2.2.2.2.1, x.2.2.2.2.2.2.2.2.2.2.2.2.1, x.2.2.2.2.2.2.2.2.2.2.2.2.2.1, x.2.2.2.2.2.2.2.2.2.2.2.2.2.2))) hx hb hG inX5 tyX5 tyokX5 nmX5 hown hK hP hD hS 0 rfl rfl 0 (by decide) (hG _ kw241) (fun _ h9 => h9) rfl (by decide +kernel) rfl rfl (Nat.le_of_ble_eq_true rfl) dX5_reach_52 rfl (fun H locs hP hD hS => ?_)
                  refine lv_aload_n hx hb dX5_reach_55 rfl (lv_at hl 0 rfl) ?_
                  refine va_get (D := D) (ci := 5) (v := .int ((2 : Int32))) hx hb hG inX5 hown hK hP 0 rfl rfl 0 (by decide) (hG _ kw241) (fun _ h9 => h9) rfl dX5_reach_56 ?_
                  refine lv_if_le (tgt := 64) hx hb dX5_reach_59 (by decide) (fun h9 => absurd h9 (by decide)) (fun _ => ?_)
                  refine lv_iconst (v := 0) hx hb dX5_reach_62 (by decide) ?_
                  exact reti (u := ((2 : Int32), x.2.1, x.2.2.1, x.2.2.2.1, x.2.2.2.2.1, x.2.2.2.2.2.1, x.2.2.2.2.2.2.1, x.2.2.2.2.2.2.2.1, x.2.2.2.2.2.2.2.2.1, x.2.2.2.2.2.2.2.2.2.1, x.2.2.2.2.2.2.2.2.2.2.1, x.2.2.2.2.2.2.2.2.2.2.2.1, x.2.2.2.2.2.2.2.2.2.2.2.2.1, x.2.2.2.2.2.2.2.2.2.2.2.2.2.1, x.2.2.2.2.2.2.2.2.2.2.2.2.2.2)) hx hb hr hlocks hK hP hD hS dX5_reach_63 (by unfold fnX5_reach; (try dsimp only); rw [if_neg h1]; rw [if_pos h2]; rw [if_neg h3]; rw [if_neg h4]; rw [if_neg h5]; rw [if_neg h6]; rw [if_neg h7]; rw [if_neg h8]; (try exact rfl))
    · refine lv_iconst (v := 1) hx hb dX5_reach_11 (by decide) ?_
      refine lv_goto (tgt := 52) hx hb dX5_reach_12 (by decide) ?_
      refine pu (D := D) (ci := 5) (v := .int ((1 : Int32))) (ty := .int) (W' := (wM cI cJ ad ((1 : Int32), x.2.1, x.2.2.1, x.2.2.2.1, x.2.2.2.2.1, x.2.2.2.2.2.1, x.2.2.2.2.2.2.1, x.2.2.2.2.2.2.2.1, x.2.2.2.2.2.2.2.2.1, x.2.2.2.2.2.2.2.2.2.1, x.2.2.2.2.2.2.2.2.2.2.1, x.2.2.2.2.2.2.2.2.2.2.2.1, x.2.2.2.2.2.2.2.2.2.2.2.2.1, x.2.2.2.2.2.2.2.2.2.2.2.2.2.1, x.2.2.2.2.2.2.2.2.2.2.2.2.2.2))) hx hb hG inX5 tyX5 tyokX5 nmX5 hown hK hP hD hS 0 rfl rfl 0 (by decide) (hG _ kw241) (fun _ h9 => h9) rfl (by decide +kernel) rfl rfl (Nat.le_of_ble_eq_true rfl) dX5_reach_52 rfl (fun H locs hP hD hS => ?_)
      refine lv_aload_n hx hb dX5_reach_55 rfl (lv_at hl 0 rfl) ?_
      refine va_get (D := D) (ci := 5) (v := .int ((1 : Int32))) hx hb hG inX5 hown hK hP 0 rfl rfl 0 (by decide) (hG _ kw241) (fun _ h9 => h9) rfl dX5_reach_56 ?_
      refine lv_if_le (tgt := 64) hx hb dX5_reach_59 (by decide) (fun h9 => absurd h9 (by decide)) (fun _ => ?_)
      refine lv_iconst (v := 0) hx hb dX5_reach_62 (by decide) ?_
      exact reti (u := ((1 : Int32), x.2.1, x.2.2.1, x.2.2.2.1, x.2.2.2.2.1, x.2.2.2.2.2.1, x.2.2.2.2.2.2.1, x.2.2.2.2.2.2.2.1, x.2.2.2.2.2.2.2.2.1, x.2.2.2.2.2.2.2.2.2.1, x.2.2.2.2.2.2.2.2.2.2.1, x.2.2.2.2.2.2.2.2.2.2.2.1, x.2.2.2.2.2.2.2.2.2.2.2.2.1, x.2.2.2.2.2.2.2.2.2.2.2.2.2.1, x.2.2.2.2.2.2.2.2.2.2.2.2.2.2)) hx hb hr hlocks hK hP hD hS dX5_reach_63 (by unfold fnX5_reach; (try dsimp only); rw [if_neg h1]; rw [if_neg h2]; (try exact rfl))
