abbrev ivX5_addressP (z : TM) : Prop := iM z
def lpX5_address  : Nat → Int32 → Int32 → TM → TM
  | 0, k, more, u0 => u0
  | n + 1, k, more, u0 =>
    if more = (0 : Int32) then
     u0
    else
     if u0.2.2.2.2.2.2.2.2.2.2.2.1.1 = (0 : Int32) then
      if k = (5 : Int32) then
       let p11 := fnX5_wrongHere u0 (6 : Int32)
       p11
      else
       let p4 := fnX5_read u0 u0.2.2.2.2.2.2.2.2.2.2.2.2.1.1 u0.2.2.2.2.2.2.2.2.2.2.2.2.1.2.1 u0.2.2.2.2.2.2.2.2.2.2.2.2.1.2.2
       if p4.2.2.2.2.2.2.2.2.2.2.2.2.1.1 ≤ (0 : Int32) then
        let p6 := fnX5_bits p4.2.2.2.2.2.2.2.2.2.2.2.2.2.2.1.2 (0 : Int32) (3 : Int32)
        let p7 := fnX5_greater p4.2.2.2.2.2.2.2.2.2.2.2.2.2.1.2.2 p6
        let p8 := fnX5_indirect (p4.2.1, p4.2.2.1, p4.2.2.2.1, p4.2.2.2.2.1, p4.2.2.2.2.2.1, p4.2.2.2.2.2.2.1, p4.2.2.2.2.2.2.2.1, p4.2.2.2.2.2.2.2.2.1, p4.2.2.2.2.2.2.2.2.2.1, p4.2.2.2.2.2.2.2.2.2.2.1, p4.2.2.2.2.2.2.2.2.2.2.2.1, p4.2.2.2.2.2.2.2.2.2.2.2.2.1, (p4.2.2.2.2.2.2.2.2.2.2.2.2.2.1.1, p4.2.2.2.2.2.2.2.2.2.2.2.2.2.1.2.1, p7), p4.2.2.2.2.2.2.2.2.2.2.2.2.2.2.1, p4.2.2.2.2.2.2.2.2.2.2.2.2.2.2.2) p4.1
        let p9 := fnX5_bits p4.1 (20 : Int32) (1 : Int32)
        if p9 = (1 : Int32) then
         lpX5_address  n (k + (1 : Int32)) (1 : Int32) p8
        else
         lpX5_address  n (k + (1 : Int32)) (0 : Int32) p8
       else
        p4.2
     else
      u0
theorem lpX5_address_s  (n : Nat) (k : Int32) (more : Int32) (u0 : TM) : lpX5_address  (n + 1) k more u0 =
    (if more = (0 : Int32) then
     u0
    else
     if u0.2.2.2.2.2.2.2.2.2.2.2.1.1 = (0 : Int32) then
      if k = (5 : Int32) then
       let p11 := fnX5_wrongHere u0 (6 : Int32)
       p11
      else
       let p4 := fnX5_read u0 u0.2.2.2.2.2.2.2.2.2.2.2.2.1.1 u0.2.2.2.2.2.2.2.2.2.2.2.2.1.2.1 u0.2.2.2.2.2.2.2.2.2.2.2.2.1.2.2
       if p4.2.2.2.2.2.2.2.2.2.2.2.2.1.1 ≤ (0 : Int32) then
        let p6 := fnX5_bits p4.2.2.2.2.2.2.2.2.2.2.2.2.2.2.1.2 (0 : Int32) (3 : Int32)
        let p7 := fnX5_greater p4.2.2.2.2.2.2.2.2.2.2.2.2.2.1.2.2 p6
        let p8 := fnX5_indirect (p4.2.1, p4.2.2.1, p4.2.2.2.1, p4.2.2.2.2.1, p4.2.2.2.2.2.1, p4.2.2.2.2.2.2.1, p4.2.2.2.2.2.2.2.1, p4.2.2.2.2.2.2.2.2.1, p4.2.2.2.2.2.2.2.2.2.1, p4.2.2.2.2.2.2.2.2.2.2.1, p4.2.2.2.2.2.2.2.2.2.2.2.1, p4.2.2.2.2.2.2.2.2.2.2.2.2.1, (p4.2.2.2.2.2.2.2.2.2.2.2.2.2.1.1, p4.2.2.2.2.2.2.2.2.2.2.2.2.2.1.2.1, p7), p4.2.2.2.2.2.2.2.2.2.2.2.2.2.2.1, p4.2.2.2.2.2.2.2.2.2.2.2.2.2.2.2) p4.1
        let p9 := fnX5_bits p4.1 (20 : Int32) (1 : Int32)
        if p9 = (1 : Int32) then
         lpX5_address  n (k + (1 : Int32)) (1 : Int32) p8
        else
         lpX5_address  n (k + (1 : Int32)) (0 : Int32) p8
       else
        p4.2
     else
      u0) := rfl
set_option maxRecDepth 100000 in
set_option maxHeartbeats 4000000 in
theorem ivlpX5_address   : ∀ (n : Nat) (k : Int32) (more : Int32) (u0 : TM), iM u0 → ivX5_addressP (lpX5_address  n k more u0) := by
  intro n
  induction n with
  | zero => intro k more u0 hI; exact hI
  | succ n ih =>
    intro k more u0 hI
    rw [lpX5_address_s]
    try dsimp only
    refine iteI (fun h1 => ?_) (fun h1 => ?_)
    · exact hI
    · refine iteI (fun h2 => ?_) (fun h2 => ?_)
      · refine iteI (fun h3 => ?_) (fun h3 => ?_)
        · have j11 : ivX5_wrongHereP (fnX5_wrongHere u0 (6 : Int32)) := ivX5_wrongHere u0 (6 : Int32) hI (show i4 (6 : Int32) from by decide)
          generalize fnX5_wrongHere u0 (6 : Int32) = p11 at j11 ⊢
          exact j11
        · have j4 : ivX5_readP (fnX5_read u0 u0.2.2.2.2.2.2.2.2.2.2.2.2.1.1 u0.2.2.2.2.2.2.2.2.2.2.2.2.1.2.1 u0.2.2.2.2.2.2.2.2.2.2.2.2.1.2.2) := ivX5_read u0 u0.2.2.2.2.2.2.2.2.2.2.2.2.1.1 u0.2.2.2.2.2.2.2.2.2.2.2.2.1.2.1 u0.2.2.2.2.2.2.2.2.2.2.2.2.1.2.2 hI hI.2.2.2.2.2.2.2.1 hI.2.2.2.2.2.2.2.2
          generalize fnX5_read u0 u0.2.2.2.2.2.2.2.2.2.2.2.2.1.1 u0.2.2.2.2.2.2.2.2.2.2.2.2.1.2.1 u0.2.2.2.2.2.2.2.2.2.2.2.2.1.2.2 = p4 at j4 ⊢
          refine iteI (fun h5 => ?_) (fun h5 => ?_)
          · have j6 : i3 (fnX5_bits p4.2.2.2.2.2.2.2.2.2.2.2.2.2.2.1.2 (0 : Int32) (3 : Int32)) := (f3M p4.2.2.2.2.2.2.2.2.2.2.2.2.2.2.1.2 (0 : Int32))
            generalize fnX5_bits p4.2.2.2.2.2.2.2.2.2.2.2.2.2.2.1.2 (0 : Int32) (3 : Int32) = p6 at j6 ⊢
            generalize fnX5_greater p4.2.2.2.2.2.2.2.2.2.2.2.2.2.1.2.2 p6 = p7
            have j8 : ivX5_indirectP (fnX5_indirect (p4.2.1, p4.2.2.1, p4.2.2.2.1, p4.2.2.2.2.1, p4.2.2.2.2.2.1, p4.2.2.2.2.2.2.1, p4.2.2.2.2.2.2.2.1, p4.2.2.2.2.2.2.2.2.1, p4.2.2.2.2.2.2.2.2.2.1, p4.2.2.2.2.2.2.2.2.2.2.1, p4.2.2.2.2.2.2.2.2.2.2.2.1, p4.2.2.2.2.2.2.2.2.2.2.2.2.1, (p4.2.2.2.2.2.2.2.2.2.2.2.2.2.1.1, p4.2.2.2.2.2.2.2.2.2.2.2.2.2.1.2.1, p7), p4.2.2.2.2.2.2.2.2.2.2.2.2.2.2.1, p4.2.2.2.2.2.2.2.2.2.2.2.2.2.2.2) p4.1) := ivX5_indirect (p4.2.1, p4.2.2.1, p4.2.2.2.1, p4.2.2.2.2.1, p4.2.2.2.2.2.1, p4.2.2.2.2.2.2.1, p4.2.2.2.2.2.2.2.1, p4.2.2.2.2.2.2.2.2.1, p4.2.2.2.2.2.2.2.2.2.1, p4.2.2.2.2.2.2.2.2.2.2.1, p4.2.2.2.2.2.2.2.2.2.2.2.1, p4.2.2.2.2.2.2.2.2.2.2.2.2.1, (p4.2.2.2.2.2.2.2.2.2.2.2.2.2.1.1, p4.2.2.2.2.2.2.2.2.2.2.2.2.2.1.2.1, p7), p4.2.2.2.2.2.2.2.2.2.2.2.2.2.2.1, p4.2.2.2.2.2.2.2.2.2.2.2.2.2.2.2) p4.1 ⟨j4.1, j4.2.1, j4.2.2.1, j4.2.2.2.1, j4.2.2.2.2.1, j4.2.2.2.2.2.1, j4.2.2.2.2.2.2.1, ⟨j4.2.2.2.2.2.2.2.1, j4.2.2.2.2.2.2.2.2⟩⟩
            generalize fnX5_indirect (p4.2.1, p4.2.2.1, p4.2.2.2.1, p4.2.2.2.2.1, p4.2.2.2.2.2.1, p4.2.2.2.2.2.2.1, p4.2.2.2.2.2.2.2.1, p4.2.2.2.2.2.2.2.2.1, p4.2.2.2.2.2.2.2.2.2.1, p4.2.2.2.2.2.2.2.2.2.2.1, p4.2.2.2.2.2.2.2.2.2.2.2.1, p4.2.2.2.2.2.2.2.2.2.2.2.2.1, (p4.2.2.2.2.2.2.2.2.2.2.2.2.2.1.1, p4.2.2.2.2.2.2.2.2.2.2.2.2.2.1.2.1, p7), p4.2.2.2.2.2.2.2.2.2.2.2.2.2.2.1, p4.2.2.2.2.2.2.2.2.2.2.2.2.2.2.2) p4.1 = p8 at j8 ⊢
            generalize fnX5_bits p4.1 (20 : Int32) (1 : Int32) = p9
            refine iteI (fun h10 => ?_) (fun h10 => ?_)
            · exact ih (k + (1 : Int32)) (1 : Int32) p8 j8
            · exact ih (k + (1 : Int32)) (0 : Int32) p8 j8
          · exact j4
      · exact hI
def fnX5_address (x : TM) (a0 : Int64) : TM :=
  let p12 := fnX5_bits a0 (0 : Int32) (12 : Int32)
  let p13 := fnX5_bits a0 (27 : Int32) (2 : Int32)
  let p14 := fnX5_bits a0 (29 : Int32) (1 : Int32)
  if p14 = (1 : Int32) then
   let p22 := fnX5_bits a0 (24 : Int32) (2 : Int32)
   if p22 ≤ (0 : Int32) then
    let p24 := fnX5_greater x.2.2.2.2.2.2.2.1.2.2 (x.2.2.2.2.2.2.1.2.2 (p13).toNatClampNeg)
    let p25 := fnX5_bits a0 (26 : Int32) (1 : Int32)
    if p25 = (1 : Int32) then
     lpX5_address  6 (0 : Int32) (1 : Int32) (x.1, x.2.1, x.2.2.1, x.2.2.2.1, x.2.2.2.2.1, x.2.2.2.2.2.1, x.2.2.2.2.2.2.1, x.2.2.2.2.2.2.2.1, x.2.2.2.2.2.2.2.2.1, x.2.2.2.2.2.2.2.2.2.1, x.2.2.2.2.2.2.2.2.2.2.1, x.2.2.2.2.2.2.2.2.2.2.2.1, ((x.2.2.2.2.2.2.1.1 (p13).toNatClampNeg), ((((x.2.2.2.2.2.2.1.2.1 (p13).toNatClampNeg) + p12) + (0 : Int32)) &&& (4095 : Int32)), p24), x.2.2.2.2.2.2.2.2.2.2.2.2.2.1, x.2.2.2.2.2.2.2.2.2.2.2.2.2.2)
    else
     lpX5_address  6 (0 : Int32) (0 : Int32) (x.1, x.2.1, x.2.2.1, x.2.2.2.1, x.2.2.2.2.1, x.2.2.2.2.2.1, x.2.2.2.2.2.2.1, x.2.2.2.2.2.2.2.1, x.2.2.2.2.2.2.2.2.1, x.2.2.2.2.2.2.2.2.2.1, x.2.2.2.2.2.2.2.2.2.2.1, x.2.2.2.2.2.2.2.2.2.2.2.1, ((x.2.2.2.2.2.2.1.1 (p13).toNatClampNeg), ((((x.2.2.2.2.2.2.1.2.1 (p13).toNatClampNeg) + p12) + (0 : Int32)) &&& (4095 : Int32)), p24), x.2.2.2.2.2.2.2.2.2.2.2.2.2.1, x.2.2.2.2.2.2.2.2.2.2.2.2.2.2)
   else
    let p27 := fnX5_greater x.2.2.2.2.2.2.2.1.2.2 (x.2.2.2.2.2.2.1.2.2 (p13).toNatClampNeg)
    let p28 := fnX5_bits a0 (26 : Int32) (1 : Int32)
    if p28 = (1 : Int32) then
     lpX5_address  6 (0 : Int32) (1 : Int32) (x.1, x.2.1, x.2.2.1, x.2.2.2.1, x.2.2.2.2.1, x.2.2.2.2.2.1, x.2.2.2.2.2.2.1, x.2.2.2.2.2.2.2.1, x.2.2.2.2.2.2.2.2.1, x.2.2.2.2.2.2.2.2.2.1, x.2.2.2.2.2.2.2.2.2.2.1, x.2.2.2.2.2.2.2.2.2.2.2.1, ((x.2.2.2.2.2.2.1.1 (p13).toNatClampNeg), ((((x.2.2.2.2.2.2.1.2.1 (p13).toNatClampNeg) + p12) + (x.2.2.2.2.2.1 (p22).toNatClampNeg)) &&& (4095 : Int32)), p27), x.2.2.2.2.2.2.2.2.2.2.2.2.2.1, x.2.2.2.2.2.2.2.2.2.2.2.2.2.2)
    else
     lpX5_address  6 (0 : Int32) (0 : Int32) (x.1, x.2.1, x.2.2.1, x.2.2.2.1, x.2.2.2.2.1, x.2.2.2.2.2.1, x.2.2.2.2.2.2.1, x.2.2.2.2.2.2.2.1, x.2.2.2.2.2.2.2.2.1, x.2.2.2.2.2.2.2.2.2.1, x.2.2.2.2.2.2.2.2.2.2.1, x.2.2.2.2.2.2.2.2.2.2.2.1, ((x.2.2.2.2.2.2.1.1 (p13).toNatClampNeg), ((((x.2.2.2.2.2.2.1.2.1 (p13).toNatClampNeg) + p12) + (x.2.2.2.2.2.1 (p22).toNatClampNeg)) &&& (4095 : Int32)), p27), x.2.2.2.2.2.2.2.2.2.2.2.2.2.1, x.2.2.2.2.2.2.2.2.2.2.2.2.2.2)
  else
   let p16 := fnX5_bits a0 (24 : Int32) (2 : Int32)
   if p16 ≤ (0 : Int32) then
    let p18 := fnX5_bits a0 (26 : Int32) (1 : Int32)
    if p18 = (1 : Int32) then
     lpX5_address  6 (0 : Int32) (1 : Int32) (x.1, x.2.1, x.2.2.1, x.2.2.2.1, x.2.2.2.2.1, x.2.2.2.2.2.1, x.2.2.2.2.2.2.1, x.2.2.2.2.2.2.2.1, x.2.2.2.2.2.2.2.2.1, x.2.2.2.2.2.2.2.2.2.1, x.2.2.2.2.2.2.2.2.2.2.1, x.2.2.2.2.2.2.2.2.2.2.2.1, (x.2.2.2.2.2.2.2.1.1, ((((0 : Int32) + p12) + (0 : Int32)) &&& (4095 : Int32)), x.2.2.2.2.2.2.2.1.2.2), x.2.2.2.2.2.2.2.2.2.2.2.2.2.1, x.2.2.2.2.2.2.2.2.2.2.2.2.2.2)
    else
     lpX5_address  6 (0 : Int32) (0 : Int32) (x.1, x.2.1, x.2.2.1, x.2.2.2.1, x.2.2.2.2.1, x.2.2.2.2.2.1, x.2.2.2.2.2.2.1, x.2.2.2.2.2.2.2.1, x.2.2.2.2.2.2.2.2.1, x.2.2.2.2.2.2.2.2.2.1, x.2.2.2.2.2.2.2.2.2.2.1, x.2.2.2.2.2.2.2.2.2.2.2.1, (x.2.2.2.2.2.2.2.1.1, ((((0 : Int32) + p12) + (0 : Int32)) &&& (4095 : Int32)), x.2.2.2.2.2.2.2.1.2.2), x.2.2.2.2.2.2.2.2.2.2.2.2.2.1, x.2.2.2.2.2.2.2.2.2.2.2.2.2.2)
   else
    let p20 := fnX5_bits a0 (26 : Int32) (1 : Int32)
    if p20 = (1 : Int32) then
     lpX5_address  6 (0 : Int32) (1 : Int32) (x.1, x.2.1, x.2.2.1, x.2.2.2.1, x.2.2.2.2.1, x.2.2.2.2.2.1, x.2.2.2.2.2.2.1, x.2.2.2.2.2.2.2.1, x.2.2.2.2.2.2.2.2.1, x.2.2.2.2.2.2.2.2.2.1, x.2.2.2.2.2.2.2.2.2.2.1, x.2.2.2.2.2.2.2.2.2.2.2.1, (x.2.2.2.2.2.2.2.1.1, ((((0 : Int32) + p12) + (x.2.2.2.2.2.1 (p16).toNatClampNeg)) &&& (4095 : Int32)), x.2.2.2.2.2.2.2.1.2.2), x.2.2.2.2.2.2.2.2.2.2.2.2.2.1, x.2.2.2.2.2.2.2.2.2.2.2.2.2.2)
    else
     lpX5_address  6 (0 : Int32) (0 : Int32) (x.1, x.2.1, x.2.2.1, x.2.2.2.1, x.2.2.2.2.1, x.2.2.2.2.2.1, x.2.2.2.2.2.2.1, x.2.2.2.2.2.2.2.1, x.2.2.2.2.2.2.2.2.1, x.2.2.2.2.2.2.2.2.2.1, x.2.2.2.2.2.2.2.2.2.2.1, x.2.2.2.2.2.2.2.2.2.2.2.1, (x.2.2.2.2.2.2.2.1.1, ((((0 : Int32) + p12) + (x.2.2.2.2.2.1 (p16).toNatClampNeg)) &&& (4095 : Int32)), x.2.2.2.2.2.2.2.1.2.2), x.2.2.2.2.2.2.2.2.2.2.2.2.2.1, x.2.2.2.2.2.2.2.2.2.2.2.2.2.2)
set_option maxRecDepth 100000 in
set_option maxHeartbeats 4000000 in
theorem ivX5_address (x : TM) (a0 : Int64) (hI : iM x) : ivX5_addressP (fnX5_address x a0) := by
  unfold fnX5_address
  try dsimp only
  have j12 : i12 (fnX5_bits a0 (0 : Int32) (12 : Int32)) := (f12M a0 (0 : Int32))
  generalize fnX5_bits a0 (0 : Int32) (12 : Int32) = p12 at j12 ⊢
  have j13 : i2 (fnX5_bits a0 (27 : Int32) (2 : Int32)) := (f2M a0 (27 : Int32))
  generalize fnX5_bits a0 (27 : Int32) (2 : Int32) = p13 at j13 ⊢
  generalize fnX5_bits a0 (29 : Int32) (1 : Int32) = p14
  refine iteI (fun h15 => ?_) (fun h15 => ?_)
  · have j22 : i2 (fnX5_bits a0 (24 : Int32) (2 : Int32)) := (f2M a0 (24 : Int32))
    generalize fnX5_bits a0 (24 : Int32) (2 : Int32) = p22 at j22 ⊢
    refine iteI (fun h23 => ?_) (fun h23 => ?_)
    · generalize fnX5_greater x.2.2.2.2.2.2.2.1.2.2 (x.2.2.2.2.2.2.1.2.2 (p13).toNatClampNeg) = p24
      generalize fnX5_bits a0 (26 : Int32) (1 : Int32) = p25
      refine iteI (fun h26 => ?_) (fun h26 => ?_)
      · exact ivlpX5_address   6 (0 : Int32) (1 : Int32) (x.1, x.2.1, x.2.2.1, x.2.2.2.1, x.2.2.2.2.1, x.2.2.2.2.2.1, x.2.2.2.2.2.2.1, x.2.2.2.2.2.2.2.1, x.2.2.2.2.2.2.2.2.1, x.2.2.2.2.2.2.2.2.2.1, x.2.2.2.2.2.2.2.2.2.2.1, x.2.2.2.2.2.2.2.2.2.2.2.1, ((x.2.2.2.2.2.2.1.1 (p13).toNatClampNeg), ((((x.2.2.2.2.2.2.1.2.1 (p13).toNatClampNeg) + p12) + (0 : Int32)) &&& (4095 : Int32)), p24), x.2.2.2.2.2.2.2.2.2.2.2.2.2.1, x.2.2.2.2.2.2.2.2.2.2.2.2.2.2) ⟨hI.1, hI.2.1, hI.2.2.1, hI.2.2.2.1, hI.2.2.2.2.1, hI.2.2.2.2.2.1, hI.2.2.2.2.2.2.1, ⟨(hI.2.2.1.1 (p13).toNatClampNeg), (mk12 _)⟩⟩
      · exact ivlpX5_address   6 (0 : Int32) (0 : Int32) (x.1, x.2.1, x.2.2.1, x.2.2.2.1, x.2.2.2.2.1, x.2.2.2.2.2.1, x.2.2.2.2.2.2.1, x.2.2.2.2.2.2.2.1, x.2.2.2.2.2.2.2.2.1, x.2.2.2.2.2.2.2.2.2.1, x.2.2.2.2.2.2.2.2.2.2.1, x.2.2.2.2.2.2.2.2.2.2.2.1, ((x.2.2.2.2.2.2.1.1 (p13).toNatClampNeg), ((((x.2.2.2.2.2.2.1.2.1 (p13).toNatClampNeg) + p12) + (0 : Int32)) &&& (4095 : Int32)), p24), x.2.2.2.2.2.2.2.2.2.2.2.2.2.1, x.2.2.2.2.2.2.2.2.2.2.2.2.2.2) ⟨hI.1, hI.2.1, hI.2.2.1, hI.2.2.2.1, hI.2.2.2.2.1, hI.2.2.2.2.2.1, hI.2.2.2.2.2.2.1, ⟨(hI.2.2.1.1 (p13).toNatClampNeg), (mk12 _)⟩⟩
    · generalize fnX5_greater x.2.2.2.2.2.2.2.1.2.2 (x.2.2.2.2.2.2.1.2.2 (p13).toNatClampNeg) = p27
      generalize fnX5_bits a0 (26 : Int32) (1 : Int32) = p28
      refine iteI (fun h29 => ?_) (fun h29 => ?_)
      · exact ivlpX5_address   6 (0 : Int32) (1 : Int32) (x.1, x.2.1, x.2.2.1, x.2.2.2.1, x.2.2.2.2.1, x.2.2.2.2.2.1, x.2.2.2.2.2.2.1, x.2.2.2.2.2.2.2.1, x.2.2.2.2.2.2.2.2.1, x.2.2.2.2.2.2.2.2.2.1, x.2.2.2.2.2.2.2.2.2.2.1, x.2.2.2.2.2.2.2.2.2.2.2.1, ((x.2.2.2.2.2.2.1.1 (p13).toNatClampNeg), ((((x.2.2.2.2.2.2.1.2.1 (p13).toNatClampNeg) + p12) + (x.2.2.2.2.2.1 (p22).toNatClampNeg)) &&& (4095 : Int32)), p27), x.2.2.2.2.2.2.2.2.2.2.2.2.2.1, x.2.2.2.2.2.2.2.2.2.2.2.2.2.2) ⟨hI.1, hI.2.1, hI.2.2.1, hI.2.2.2.1, hI.2.2.2.2.1, hI.2.2.2.2.2.1, hI.2.2.2.2.2.2.1, ⟨(hI.2.2.1.1 (p13).toNatClampNeg), (mk12 _)⟩⟩
      · exact ivlpX5_address   6 (0 : Int32) (0 : Int32) (x.1, x.2.1, x.2.2.1, x.2.2.2.1, x.2.2.2.2.1, x.2.2.2.2.2.1, x.2.2.2.2.2.2.1, x.2.2.2.2.2.2.2.1, x.2.2.2.2.2.2.2.2.1, x.2.2.2.2.2.2.2.2.2.1, x.2.2.2.2.2.2.2.2.2.2.1, x.2.2.2.2.2.2.2.2.2.2.2.1, ((x.2.2.2.2.2.2.1.1 (p13).toNatClampNeg), ((((x.2.2.2.2.2.2.1.2.1 (p13).toNatClampNeg) + p12) + (x.2.2.2.2.2.1 (p22).toNatClampNeg)) &&& (4095 : Int32)), p27), x.2.2.2.2.2.2.2.2.2.2.2.2.2.1, x.2.2.2.2.2.2.2.2.2.2.2.2.2.2) ⟨hI.1, hI.2.1, hI.2.2.1, hI.2.2.2.1, hI.2.2.2.2.1, hI.2.2.2.2.2.1, hI.2.2.2.2.2.2.1, ⟨(hI.2.2.1.1 (p13).toNatClampNeg), (mk12 _)⟩⟩
  · have j16 : i2 (fnX5_bits a0 (24 : Int32) (2 : Int32)) := (f2M a0 (24 : Int32))
    generalize fnX5_bits a0 (24 : Int32) (2 : Int32) = p16 at j16 ⊢
    refine iteI (fun h17 => ?_) (fun h17 => ?_)
    · generalize fnX5_bits a0 (26 : Int32) (1 : Int32) = p18
      refine iteI (fun h19 => ?_) (fun h19 => ?_)
      · exact ivlpX5_address   6 (0 : Int32) (1 : Int32) (x.1, x.2.1, x.2.2.1, x.2.2.2.1, x.2.2.2.2.1, x.2.2.2.2.2.1, x.2.2.2.2.2.2.1, x.2.2.2.2.2.2.2.1, x.2.2.2.2.2.2.2.2.1, x.2.2.2.2.2.2.2.2.2.1, x.2.2.2.2.2.2.2.2.2.2.1, x.2.2.2.2.2.2.2.2.2.2.2.1, (x.2.2.2.2.2.2.2.1.1, ((((0 : Int32) + p12) + (0 : Int32)) &&& (4095 : Int32)), x.2.2.2.2.2.2.2.1.2.2), x.2.2.2.2.2.2.2.2.2.2.2.2.2.1, x.2.2.2.2.2.2.2.2.2.2.2.2.2.2) ⟨hI.1, hI.2.1, hI.2.2.1, hI.2.2.2.1, hI.2.2.2.2.1, hI.2.2.2.2.2.1, hI.2.2.2.2.2.2.1, ⟨hI.2.2.2.1.1, (mk12 _)⟩⟩
      · exact ivlpX5_address   6 (0 : Int32) (0 : Int32) (x.1, x.2.1, x.2.2.1, x.2.2.2.1, x.2.2.2.2.1, x.2.2.2.2.2.1, x.2.2.2.2.2.2.1, x.2.2.2.2.2.2.2.1, x.2.2.2.2.2.2.2.2.1, x.2.2.2.2.2.2.2.2.2.1, x.2.2.2.2.2.2.2.2.2.2.1, x.2.2.2.2.2.2.2.2.2.2.2.1, (x.2.2.2.2.2.2.2.1.1, ((((0 : Int32) + p12) + (0 : Int32)) &&& (4095 : Int32)), x.2.2.2.2.2.2.2.1.2.2), x.2.2.2.2.2.2.2.2.2.2.2.2.2.1, x.2.2.2.2.2.2.2.2.2.2.2.2.2.2) ⟨hI.1, hI.2.1, hI.2.2.1, hI.2.2.2.1, hI.2.2.2.2.1, hI.2.2.2.2.2.1, hI.2.2.2.2.2.2.1, ⟨hI.2.2.2.1.1, (mk12 _)⟩⟩
    · generalize fnX5_bits a0 (26 : Int32) (1 : Int32) = p20
      refine iteI (fun h21 => ?_) (fun h21 => ?_)
      · exact ivlpX5_address   6 (0 : Int32) (1 : Int32) (x.1, x.2.1, x.2.2.1, x.2.2.2.1, x.2.2.2.2.1, x.2.2.2.2.2.1, x.2.2.2.2.2.2.1, x.2.2.2.2.2.2.2.1, x.2.2.2.2.2.2.2.2.1, x.2.2.2.2.2.2.2.2.2.1, x.2.2.2.2.2.2.2.2.2.2.1, x.2.2.2.2.2.2.2.2.2.2.2.1, (x.2.2.2.2.2.2.2.1.1, ((((0 : Int32) + p12) + (x.2.2.2.2.2.1 (p16).toNatClampNeg)) &&& (4095 : Int32)), x.2.2.2.2.2.2.2.1.2.2), x.2.2.2.2.2.2.2.2.2.2.2.2.2.1, x.2.2.2.2.2.2.2.2.2.2.2.2.2.2) ⟨hI.1, hI.2.1, hI.2.2.1, hI.2.2.2.1, hI.2.2.2.2.1, hI.2.2.2.2.2.1, hI.2.2.2.2.2.2.1, ⟨hI.2.2.2.1.1, (mk12 _)⟩⟩
      · exact ivlpX5_address   6 (0 : Int32) (0 : Int32) (x.1, x.2.1, x.2.2.1, x.2.2.2.1, x.2.2.2.2.1, x.2.2.2.2.2.1, x.2.2.2.2.2.2.1, x.2.2.2.2.2.2.2.1, x.2.2.2.2.2.2.2.2.1, x.2.2.2.2.2.2.2.2.2.1, x.2.2.2.2.2.2.2.2.2.2.1, x.2.2.2.2.2.2.2.2.2.2.2.1, (x.2.2.2.2.2.2.2.1.1, ((((0 : Int32) + p12) + (x.2.2.2.2.2.1 (p16).toNatClampNeg)) &&& (4095 : Int32)), x.2.2.2.2.2.2.2.1.2.2), x.2.2.2.2.2.2.2.2.2.2.2.2.2.1, x.2.2.2.2.2.2.2.2.2.2.2.2.2.2) ⟨hI.1, hI.2.1, hI.2.2.1, hI.2.2.2.1, hI.2.2.2.2.1, hI.2.2.2.2.2.1, hI.2.2.2.2.2.2.1, ⟨hI.2.2.2.1.1, (mk12 _)⟩⟩
set_option maxRecDepth 100000 in
set_option maxHeartbeats 4000000 in
theorem okX5_address (l : Launch) (D : va_G) (cI cJ cP : ClassId) (ad : Nat → Nat) (sz : Nat) (x : TM) (a0 : Int64) (hI : iM x) : Met l yX5_address (Cond.code yX5_address cX5_address 11 none :: gG) { frames := 4, cells := 0, slots := 0, locals := 105 } (va_Pc [.ref (ad 0), .long a0] (PRE D (tz cI cJ cP) sz (wM cI cJ ad x))) (va_Qv (fun (u : TM) => u = fnX5_address x a0) (AT D (tz cI cJ cP) (va_A (wM cI cJ ad x) sz) (fun (u : TM) => (wM cI cJ ad u))) (va_A (wM cI cJ ad x) sz)) 0 0 (va_A (wM cI cJ ad x) sz) := by
  refine mo (QA := fun A => va_Qv (fun (u : TM) => u = fnX5_address x a0) (AT D (tz cI cJ cP) A (fun (u : TM) => (wM cI cJ ad u))) A) (by decide) (Nat.le_of_ble_eq_true rfl) ?_
  intro p e s m below meth c A ls H hx hb hr hml hown hG hlocks hnm hA hS hP hK hD hl hN
  have hown : s.vm.findClass RX5 = some m.cls := hown
  have hl : lv_has ls 11 [(0, .ref (ad 0)), (1, .long a0)] := hl
  have loop161 : ∀ (n : Nat) (k : Int32) (more : Int32) (u0 : TM) (H : Heap) (locs : List Loc) (ls : Array Slot), ((5 : Int32).toInt - k.toInt).toNat < n → iM u0 → 0 ≤ k.toInt ∧ k.toInt ≤ 5 → va_P D vwCl (wM cI cJ ad u0) H → va_D A (wM cI cJ ad u0) → va_S A s.heap H locs → lv_has ls 11 [(8, .int (k)), (7, .int (more)), (0, .ref (ad 0))] → fnX5_address x a0 = lpX5_address  n k more u0 → W p l e { frames := 4, cells := 0, slots := 0, locals := 105 } s m ([.ref (ad 0), .long a0]).toArray below meth c H locs 0 0 (MQ below (va_Qv (fun (u : TM) => u = fnX5_address x a0) (AT D (tz cI cJ cP) A (fun (u : TM) => (wM cI cJ ad u))) A) ([.ref (ad 0), .long a0]).toArray s 0 0 A) (F0 m 161 ls []) := by
    intro n
    induction n with
    | zero => intro k more u0 H locs ls hn; exact absurd hn (Nat.not_lt_zero _)
    | succ n ih =>
      intro k more u0 H locs ls hn hI hk hP hD hS hl hE
      refine lv_iload hx hb dX5_address_161 (lv_at hl 1 rfl) ?_
      refine lv_if_eq (tgt := 263) hx hb dX5_address_163 (by decide) (fun h1 => ?_) (fun h1 => ?_)
      · exact retv (u := u0) hx hb hr hlocks hK hP hD hS dX5_address_263 (by rw [hE, lpX5_address_s]; (try dsimp only); rw [if_pos h1]; (try exact rfl))
      · refine lv_aload_n hx hb dX5_address_166 rfl (lv_at hl 2 rfl) ?_
        refine va_get (D := D) (ci := 5) (v := .int (u0.2.2.2.2.2.2.2.2.2.2.2.1.1)) hx hb hG inX5 hown hK hP 0 rfl rfl 28 (by decide) (hG _ kw242) (fun _ h9 => h9) rfl dX5_address_167 ?_
        refine lv_if_ne (tgt := 263) hx hb dX5_address_170 (by decide) (fun h2 => ?_) (fun h2 => ?_)
        · exact retv (u := u0) hx hb hr hlocks hK hP hD hS dX5_address_263 (by rw [hE, lpX5_address_s]; (try dsimp only); rw [if_neg h1]; rw [if_neg h2]; (try exact rfl))
        · refine lv_iload hx hb dX5_address_173 (lv_at hl 0 rfl) ?_
          refine lv_iconst (v := 5) hx hb dX5_address_175 (by decide) ?_
          refine lv_icmp_ne (tgt := 186) hx hb dX5_address_176 (by decide) (fun h3 => ?_) (fun h3 => ?_)
          · refine lv_aload_n hx hb dX5_address_186 rfl (lv_at hl 2 rfl) ?_
            refine lv_aload_n hx hb dX5_address_187 rfl (lv_at hl 2 rfl) ?_
            refine va_get (D := D) (ci := 5) (v := .int (u0.2.2.2.2.2.2.2.2.2.2.2.2.1.1)) hx hb hG inX5 hown hK hP 0 rfl rfl 31 (by decide) (hG _ kw285) (fun _ h9 => h9) rfl dX5_address_188 ?_
            refine lv_aload_n hx hb dX5_address_191 rfl (lv_at hl 2 rfl) ?_
            refine va_get (D := D) (ci := 5) (v := .int (u0.2.2.2.2.2.2.2.2.2.2.2.2.1.2.1)) hx hb hG inX5 hown hK hP 0 rfl rfl 32 (by decide) (hG _ kw286) (fun _ h9 => h9) rfl dX5_address_192 ?_
            refine lv_aload_n hx hb dX5_address_195 rfl (lv_at hl 2 rfl) ?_
            refine va_get (D := D) (ci := 5) (v := .int (u0.2.2.2.2.2.2.2.2.2.2.2.2.1.2.2)) hx hb hG inX5 hown hK hP 0 rfl rfl 33 (by decide) (hG _ kw287) (fun _ h9 => h9) rfl dX5_address_196 ?_
            refine kFl (As := [.int (u0.2.2.2.2.2.2.2.2.2.2.2.2.1.1), .int (u0.2.2.2.2.2.2.2.2.2.2.2.2.1.2.1), .int (u0.2.2.2.2.2.2.2.2.2.2.2.2.1.2.2)]) (rest := []) hx hb hml hown hG hl (okX5_read l D cI cJ cP ad H.size u0 u0.2.2.2.2.2.2.2.2.2.2.2.2.1.1 u0.2.2.2.2.2.2.2.2.2.2.2.2.1.2.1 u0.2.2.2.2.2.2.2.2.2.2.2.2.1.2.2 hI hI.2.2.2.2.2.2.2.1 hI.2.2.2.2.2.2.2.2) (cV 3 hG kw299 kw300 kw301 kw302 kw238 hdX5_read ⟨by decide, by decide⟩) 0 5 rfl rfl hK hP hD hS hA hN rfl rfl (Nat.le_of_ble_eq_true rfl) dX5_address_199 ⟨Nat.zero_le _, Nat.zero_le _⟩ (fun r4 u4 q4 H locs hP hD hS => ?_)
            have j4 : ivX5_readP (r4, u4) := by rw [q4]; exact ivX5_read u0 u0.2.2.2.2.2.2.2.2.2.2.2.2.1.1 u0.2.2.2.2.2.2.2.2.2.2.2.2.1.2.1 u0.2.2.2.2.2.2.2.2.2.2.2.2.1.2.2 hI hI.2.2.2.2.2.2.2.1 hI.2.2.2.2.2.2.2.2
            refine lv_lstore (lv' := [(9, .long (r4)), (8, .int (k)), (7, .int (more)), (0, .ref (ad 0))]) hx hb dX5_address_202 hl (by decide) rfl (fun ls hl => ?_)
            refine lv_aload_n hx hb dX5_address_204 rfl (lv_at hl 3 rfl) ?_
            refine va_get (D := D) (ci := 5) (v := .int (u4.2.2.2.2.2.2.2.2.2.2.2.1.1)) hx hb hG inX5 hown hK hP 0 rfl rfl 28 (by decide) (hG _ kw242) (fun _ h9 => h9) rfl dX5_address_205 ?_
            refine lv_if_le (tgt := 212) hx hb dX5_address_208 (by decide) (fun h5 => ?_) (fun h5 => ?_)
            · refine lv_aload_n hx hb dX5_address_212 rfl (lv_at hl 3 rfl) ?_
              refine lv_aload_n hx hb dX5_address_213 rfl (lv_at hl 3 rfl) ?_
              refine va_get (D := D) (ci := 5) (v := .int (u4.2.2.2.2.2.2.2.2.2.2.2.2.1.2.2)) hx hb hG inX5 hown hK hP 0 rfl rfl 33 (by decide) (hG _ kw287) (fun _ h9 => h9) rfl dX5_address_214 ?_
              refine lv_aload_n hx hb dX5_address_217 rfl (lv_at hl 3 rfl) ?_
              refine va_get (D := D) (ci := 5) (v := .long (u4.2.2.2.2.2.2.2.2.2.2.2.2.2.1.2)) hx hb hG inX5 hown hK hP 0 rfl rfl 35 (by decide) (hG _ kw262) (fun _ h9 => h9) rfl dX5_address_218 ?_
              refine lv_iconst (v := 0) hx hb dX5_address_221 (by decide) ?_
              refine lv_iconst (v := 3) hx hb dX5_address_222 (by decide) ?_
              refine k0Si (As := [.long (u4.2.2.2.2.2.2.2.2.2.2.2.2.2.1.2), .int ((0 : Int32)), .int ((3 : Int32))]) (rest := [.int (u4.2.2.2.2.2.2.2.2.2.2.2.2.1.2.2), .ref (ad 0)]) hx hb hml hown hG hl (okX5_bits l D cI cJ cP  H.size u4.2.2.2.2.2.2.2.2.2.2.2.2.2.1.2 (0 : Int32) (3 : Int32) ) (cS 3 hG kw237 kw239 kw240 kw238 hdX5_bits ⟨by decide, by decide⟩) hK hP hD hS hA hN rfl rfl (Nat.le_of_ble_eq_true rfl) dX5_address_223 ⟨Nat.zero_le _, Nat.zero_le _⟩ (fun r6 q6 H locs hP hD hS => ?_)
              have j6 : i3 r6 := by rw [q6]; exact (f3M u4.2.2.2.2.2.2.2.2.2.2.2.2.2.1.2 (0 : Int32))
              refine k0Si (As := [.int (u4.2.2.2.2.2.2.2.2.2.2.2.2.1.2.2), .int (r6)]) (rest := [.ref (ad 0)]) hx hb hml hown hG hl (okX5_greater l D cI cJ cP  H.size u4.2.2.2.2.2.2.2.2.2.2.2.2.1.2.2 r6 ) (cS 2 hG kw296 kw297 kw298 kw238 hdX5_greater ⟨by decide, by decide⟩) hK hP hD hS hA hN rfl rfl (Nat.le_of_ble_eq_true rfl) dX5_address_226 ⟨Nat.zero_le _, Nat.zero_le _⟩ (fun r7 q7 H locs hP hD hS => ?_)
              refine pu (D := D) (ci := 5) (v := .int (r7)) (ty := .int) (W' := (wM cI cJ ad (u4.1, u4.2.1, u4.2.2.1, u4.2.2.2.1, u4.2.2.2.2.1, u4.2.2.2.2.2.1, u4.2.2.2.2.2.2.1, u4.2.2.2.2.2.2.2.1, u4.2.2.2.2.2.2.2.2.1, u4.2.2.2.2.2.2.2.2.2.1, u4.2.2.2.2.2.2.2.2.2.2.1, u4.2.2.2.2.2.2.2.2.2.2.2.1, (u4.2.2.2.2.2.2.2.2.2.2.2.2.1.1, u4.2.2.2.2.2.2.2.2.2.2.2.2.1.2.1, r7), u4.2.2.2.2.2.2.2.2.2.2.2.2.2.1, u4.2.2.2.2.2.2.2.2.2.2.2.2.2.2))) hx hb hG inX5 tyX5 tyokX5 nmX5 hown hK hP hD hS 0 rfl rfl 33 (by decide) (hG _ kw287) (fun _ h9 => h9) rfl (by decide +kernel) rfl rfl (Nat.le_of_ble_eq_true rfl) dX5_address_229 rfl (fun H locs hP hD hS => ?_)
              refine lv_aload_n hx hb dX5_address_232 rfl (lv_at hl 3 rfl) ?_
              refine lv_lload hx hb dX5_address_233 (lv_at hl 0 rfl) ?_
              refine kFv (As := [.long (r4)]) (rest := []) hx hb hml hown hG hl (okX5_indirect l D cI cJ cP ad H.size (u4.1, u4.2.1, u4.2.2.1, u4.2.2.2.1, u4.2.2.2.2.1, u4.2.2.2.2.2.1, u4.2.2.2.2.2.2.1, u4.2.2.2.2.2.2.2.1, u4.2.2.2.2.2.2.2.2.1, u4.2.2.2.2.2.2.2.2.2.1, u4.2.2.2.2.2.2.2.2.2.2.1, u4.2.2.2.2.2.2.2.2.2.2.2.1, (u4.2.2.2.2.2.2.2.2.2.2.2.2.1.1, u4.2.2.2.2.2.2.2.2.2.2.2.2.1.2.1, r7), u4.2.2.2.2.2.2.2.2.2.2.2.2.2.1, u4.2.2.2.2.2.2.2.2.2.2.2.2.2.2) r4 ⟨j4.1, j4.2.1, j4.2.2.1, j4.2.2.2.1, j4.2.2.2.2.1, j4.2.2.2.2.2.1, j4.2.2.2.2.2.2.1, ⟨j4.2.2.2.2.2.2.2.1, j4.2.2.2.2.2.2.2.2⟩⟩) (cV 1 hG kw344 kw345 kw346 kw347 kw238 hdX5_indirect ⟨by decide, by decide⟩) 0 5 rfl rfl hK hP hD hS hA hN rfl rfl (Nat.le_of_ble_eq_true rfl) dX5_address_235 ⟨Nat.zero_le _, Nat.zero_le _⟩ (fun u8 q8 H locs hP hD hS => ?_)
              have j8 : ivX5_indirectP u8 := by rw [q8]; exact ivX5_indirect (u4.1, u4.2.1, u4.2.2.1, u4.2.2.2.1, u4.2.2.2.2.1, u4.2.2.2.2.2.1, u4.2.2.2.2.2.2.1, u4.2.2.2.2.2.2.2.1, u4.2.2.2.2.2.2.2.2.1, u4.2.2.2.2.2.2.2.2.2.1, u4.2.2.2.2.2.2.2.2.2.2.1, u4.2.2.2.2.2.2.2.2.2.2.2.1, (u4.2.2.2.2.2.2.2.2.2.2.2.2.1.1, u4.2.2.2.2.2.2.2.2.2.2.2.2.1.2.1, r7), u4.2.2.2.2.2.2.2.2.2.2.2.2.2.1, u4.2.2.2.2.2.2.2.2.2.2.2.2.2.2) r4 ⟨j4.1, j4.2.1, j4.2.2.1, j4.2.2.2.1, j4.2.2.2.2.1, j4.2.2.2.2.2.1, j4.2.2.2.2.2.2.1, ⟨j4.2.2.2.2.2.2.2.1, j4.2.2.2.2.2.2.2.2⟩⟩
              refine lv_lload hx hb dX5_address_238 (lv_at hl 0 rfl) ?_
              refine lv_bipush (v := 20) hx hb dX5_address_240 (by decide) ?_
              refine lv_iconst (v := 1) hx hb dX5_address_242 (by decide) ?_
              refine k0Si (As := [.long (r4), .int ((20 : Int32)), .int ((1 : Int32))]) (rest := []) hx hb hml hown hG hl (okX5_bits l D cI cJ cP  H.size r4 (20 : Int32) (1 : Int32) ) (cS 3 hG kw237 kw239 kw240 kw238 hdX5_bits ⟨by decide, by decide⟩) hK hP hD hS hA hN rfl rfl (Nat.le_of_ble_eq_true rfl) dX5_address_243 ⟨Nat.zero_le _, Nat.zero_le _⟩ (fun r9 q9 H locs hP hD hS => ?_)
              refine lv_iconst (v := 1) hx hb dX5_address_246 (by decide) ?_
              refine lv_icmp_ne (tgt := 254) hx hb dX5_address_247 (by decide) (fun h10 => ?_) (fun h10 => ?_)
              · refine lv_iconst (v := 0) hx hb dX5_address_254 (by decide) ?_
                refine lv_istore (lv' := [(7, .int ((0 : Int32))), (9, .long (r4)), (8, .int (k)), (0, .ref (ad 0))]) hx hb dX5_address_255 hl (by decide) rfl (fun ls hl => ?_)
                refine lv_iinc (k := 2) (v := (k + (1 : Int32))) (lv' := [(8, .int ((k + (1 : Int32)))), (7, .int ((0 : Int32))), (9, .long (r4)), (0, .ref (ad 0))]) hx hb dX5_address_257 hl rfl (by rfl) (by decide) rfl (fun ls hl => ?_)
                refine lv_goto (tgt := 161) hx hb dX5_address_260 (by decide) ?_
                exact ih (k + (1 : Int32)) (0 : Int32) u8 _ _ _ (lpM (lpA5 hk h3) hn) j8 (lpK5 hk (lpA5 hk h3)) hP hD hS (lv_sub hl [0, 1, 3] rfl) (by rw [hE, lpX5_address_s]; (try dsimp only); rw [if_neg h1]; rw [if_pos h2]; rw [if_neg h3]; rw [← q4]; (try dsimp only); rw [if_pos h5]; rw [← q6]; (try dsimp only); rw [← q7]; (try dsimp only); rw [← q8]; (try dsimp only); rw [← q9]; (try dsimp only); rw [if_neg h10]; (try exact rfl))
              · refine lv_iconst (v := 1) hx hb dX5_address_250 (by decide) ?_
                refine lv_goto (tgt := 255) hx hb dX5_address_251 (by decide) ?_
                refine lv_istore (lv' := [(7, .int ((1 : Int32))), (9, .long (r4)), (8, .int (k)), (0, .ref (ad 0))]) hx hb dX5_address_255 hl (by decide) rfl (fun ls hl => ?_)
                refine lv_iinc (k := 2) (v := (k + (1 : Int32))) (lv' := [(8, .int ((k + (1 : Int32)))), (7, .int ((1 : Int32))), (9, .long (r4)), (0, .ref (ad 0))]) hx hb dX5_address_257 hl rfl (by rfl) (by decide) rfl (fun ls hl => ?_)
                refine lv_goto (tgt := 161) hx hb dX5_address_260 (by decide) ?_
                exact ih (k + (1 : Int32)) (1 : Int32) u8 _ _ _ (lpM (lpA5 hk h3) hn) j8 (lpK5 hk (lpA5 hk h3)) hP hD hS (lv_sub hl [0, 1, 3] rfl) (by rw [hE, lpX5_address_s]; (try dsimp only); rw [if_neg h1]; rw [if_pos h2]; rw [if_neg h3]; rw [← q4]; (try dsimp only); rw [if_pos h5]; rw [← q6]; (try dsimp only); rw [← q7]; (try dsimp only); rw [← q8]; (try dsimp only); rw [← q9]; (try dsimp only); rw [if_pos h10]; (try exact rfl))
            · exact retv (u := u4) hx hb hr hlocks hK hP hD hS dX5_address_211 (by rw [hE, lpX5_address_s]; (try dsimp only); rw [if_neg h1]; rw [if_pos h2]; rw [if_neg h3]; rw [← q4]; (try dsimp only); rw [if_neg h5]; (try exact rfl))
          · refine lv_aload_n hx hb dX5_address_179 rfl (lv_at hl 2 rfl) ?_
            refine lv_bipush (v := 6) hx hb dX5_address_180 (by decide) ?_
            refine kFv (As := [.int ((6 : Int32))]) (rest := []) hx hb hml hown hG hl (okX5_wrongHere l D cI cJ cP ad H.size u0 (6 : Int32) hI (show i4 (6 : Int32) from by decide)) (cV 1 hG kw289 kw290 kw291 kw292 kw238 hdX5_wrongHere ⟨by decide, by decide⟩) 0 5 rfl rfl hK hP hD hS hA hN rfl rfl (Nat.le_of_ble_eq_true rfl) dX5_address_182 ⟨Nat.zero_le _, Nat.zero_le _⟩ (fun u11 q11 H locs hP hD hS => ?_)
            have j11 : ivX5_wrongHereP u11 := by rw [q11]; exact ivX5_wrongHere u0 (6 : Int32) hI (show i4 (6 : Int32) from by decide)
            exact retv (u := u11) hx hb hr hlocks hK hP hD hS dX5_address_185 (by rw [hE, lpX5_address_s]; (try dsimp only); rw [if_neg h1]; rw [if_pos h2]; rw [if_pos h3]; rw [← q11]; (try dsimp only); (try exact rfl))
  refine lv_lload_n hx hb dX5_address_0 rfl (lv_at hl 1 rfl) ?_
  refine lv_iconst (v := 0) hx hb dX5_address_1 (by decide) ?_
  refine lv_bipush (v := 12) hx hb dX5_address_2 (by decide) ?_
  refine k0Si (As := [.long (a0), .int ((0 : Int32)), .int ((12 : Int32))]) (rest := []) hx hb hml hown hG hl (okX5_bits l D cI cJ cP  H.size a0 (0 : Int32) (12 : Int32) ) (cS 3 hG kw237 kw239 kw240 kw238 hdX5_bits ⟨by decide, by decide⟩) hK hP hD hS hA hN rfl rfl (Nat.le_of_ble_eq_true rfl) dX5_address_4 ⟨Nat.zero_le _, Nat.zero_le _⟩ (fun r12 q12 H locs hP hD hS => ?_)
  have j12 : i12 r12 := by rw [q12]; exact (f12M a0 (0 : Int32))
  refine lv_istore_n (lv' := [(3, .int (r12)), (0, .ref (ad 0)), (1, .long (a0))]) hx hb dX5_address_7 rfl hl (by decide) rfl (fun ls hl => ?_)
  refine lv_lload_n hx hb dX5_address_8 rfl (lv_at hl 2 rfl) ?_
  refine lv_bipush (v := 27) hx hb dX5_address_9 (by decide) ?_
  refine lv_iconst (v := 2) hx hb dX5_address_11 (by decide) ?_
  refine k0Si (As := [.long (a0), .int ((27 : Int32)), .int ((2 : Int32))]) (rest := []) hx hb hml hown hG hl (okX5_bits l D cI cJ cP  H.size a0 (27 : Int32) (2 : Int32) ) (cS 3 hG kw237 kw239 kw240 kw238 hdX5_bits ⟨by decide, by decide⟩) hK hP hD hS hA hN rfl rfl (Nat.le_of_ble_eq_true rfl) dX5_address_12 ⟨Nat.zero_le _, Nat.zero_le _⟩ (fun r13 q13 H locs hP hD hS => ?_)
  have j13 : i2 r13 := by rw [q13]; exact (f2M a0 (27 : Int32))
  refine lv_istore (lv' := [(4, .int (r13)), (3, .int (r12)), (0, .ref (ad 0)), (1, .long (a0))]) hx hb dX5_address_15 hl (by decide) rfl (fun ls hl => ?_)
  refine lv_lload_n hx hb dX5_address_17 rfl (lv_at hl 3 rfl) ?_
  refine lv_bipush (v := 29) hx hb dX5_address_18 (by decide) ?_
  refine lv_iconst (v := 1) hx hb dX5_address_20 (by decide) ?_
  refine k0Si (As := [.long (a0), .int ((29 : Int32)), .int ((1 : Int32))]) (rest := []) hx hb hml hown hG hl (okX5_bits l D cI cJ cP  H.size a0 (29 : Int32) (1 : Int32) ) (cS 3 hG kw237 kw239 kw240 kw238 hdX5_bits ⟨by decide, by decide⟩) hK hP hD hS hA hN rfl rfl (Nat.le_of_ble_eq_true rfl) dX5_address_21 ⟨Nat.zero_le _, Nat.zero_le _⟩ (fun r14 q14 H locs hP hD hS => ?_)
  refine lv_iconst (v := 1) hx hb dX5_address_24 (by decide) ?_
  refine lv_icmp_ne (tgt := 32) hx hb dX5_address_25 (by decide) (fun h15 => ?_) (fun h15 => ?_)
  · refine lv_iconst (v := 0) hx hb dX5_address_32 (by decide) ?_
    refine lv_istore (lv' := [(5, .int ((0 : Int32))), (4, .int (r13)), (3, .int (r12)), (0, .ref (ad 0)), (1, .long (a0))]) hx hb dX5_address_33 hl (by decide) rfl (fun ls hl => ?_)
    refine lv_lload_n hx hb dX5_address_35 rfl (lv_at hl 4 rfl) ?_
    refine lv_bipush (v := 24) hx hb dX5_address_36 (by decide) ?_
    refine lv_iconst (v := 2) hx hb dX5_address_38 (by decide) ?_
    refine k0Si (As := [.long (a0), .int ((24 : Int32)), .int ((2 : Int32))]) (rest := []) hx hb hml hown hG hl (okX5_bits l D cI cJ cP  H.size a0 (24 : Int32) (2 : Int32) ) (cS 3 hG kw237 kw239 kw240 kw238 hdX5_bits ⟨by decide, by decide⟩) hK hP hD hS hA hN rfl rfl (Nat.le_of_ble_eq_true rfl) dX5_address_39 ⟨Nat.zero_le _, Nat.zero_le _⟩ (fun r16 q16 H locs hP hD hS => ?_)
    have j16 : i2 r16 := by rw [q16]; exact (f2M a0 (24 : Int32))
    refine lv_istore (lv' := [(6, .int (r16)), (5, .int ((0 : Int32))), (4, .int (r13)), (3, .int (r12)), (0, .ref (ad 0)), (1, .long (a0))]) hx hb dX5_address_42 hl (by decide) rfl (fun ls hl => ?_)
    refine lv_aload_n hx hb dX5_address_44 rfl (lv_at hl 4 rfl) ?_
    refine lv_iload hx hb dX5_address_45 (lv_at hl 1 rfl) ?_
    refine lv_if_eq (tgt := 60) hx hb dX5_address_47 (by decide) (fun _ => ?_) (fun h9 => absurd (by decide) h9)
    refine lv_aload_n hx hb dX5_address_60 rfl (lv_at hl 4 rfl) ?_
    refine va_get (D := D) (ci := 5) (v := .int (x.2.2.2.2.2.2.2.1.1)) hx hb hG inX5 hown hK hP 0 rfl rfl 15 (by decide) (hG _ kw245) (fun _ h9 => h9) rfl dX5_address_61 ?_
    refine pu (D := D) (ci := 5) (v := .int (x.2.2.2.2.2.2.2.1.1)) (ty := .int) (W' := (wM cI cJ ad (x.1, x.2.1, x.2.2.1, x.2.2.2.1, x.2.2.2.2.1, x.2.2.2.2.2.1, x.2.2.2.2.2.2.1, x.2.2.2.2.2.2.2.1, x.2.2.2.2.2.2.2.2.1, x.2.2.2.2.2.2.2.2.2.1, x.2.2.2.2.2.2.2.2.2.2.1, x.2.2.2.2.2.2.2.2.2.2.2.1, (x.2.2.2.2.2.2.2.1.1, x.2.2.2.2.2.2.2.2.2.2.2.2.1.2.1, x.2.2.2.2.2.2.2.2.2.2.2.2.1.2.2), x.2.2.2.2.2.2.2.2.2.2.2.2.2.1, x.2.2.2.2.2.2.2.2.2.2.2.2.2.2))) hx hb hG inX5 tyX5 tyokX5 nmX5 hown hK hP hD hS 0 rfl rfl 31 (by decide) (hG _ kw285) (fun _ h9 => h9) rfl (by decide +kernel) rfl rfl (Nat.le_of_ble_eq_true rfl) dX5_address_64 rfl (fun H locs hP hD hS => ?_)
    refine lv_aload_n hx hb dX5_address_67 rfl (lv_at hl 4 rfl) ?_
    refine lv_iload hx hb dX5_address_68 (lv_at hl 1 rfl) ?_
    refine lv_if_eq (tgt := 83) hx hb dX5_address_70 (by decide) (fun _ => ?_) (fun h9 => absurd (by decide) h9)
    refine lv_iconst (v := 0) hx hb dX5_address_83 (by decide) ?_
    refine lv_iload_n hx hb dX5_address_84 rfl (lv_at hl 3 rfl) ?_
    refine lv_iadd hx hb dX5_address_85 ?_
    refine lv_iload hx hb dX5_address_86 (lv_at hl 0 rfl) ?_
    refine lv_if_le (tgt := 101) hx hb dX5_address_88 (by decide) (fun h17 => ?_) (fun h17 => ?_)
    · refine lv_iconst (v := 0) hx hb dX5_address_101 (by decide) ?_
      refine lv_iadd hx hb dX5_address_102 ?_
      refine lv_sipush (v := 4095) hx hb dX5_address_103 (by decide) ?_
      refine lv_iand hx hb dX5_address_106 ?_
      refine pu (D := D) (ci := 5) (v := .int (((((0 : Int32) + r12) + (0 : Int32)) &&& (4095 : Int32)))) (ty := .int) (W' := (wM cI cJ ad (x.1, x.2.1, x.2.2.1, x.2.2.2.1, x.2.2.2.2.1, x.2.2.2.2.2.1, x.2.2.2.2.2.2.1, x.2.2.2.2.2.2.2.1, x.2.2.2.2.2.2.2.2.1, x.2.2.2.2.2.2.2.2.2.1, x.2.2.2.2.2.2.2.2.2.2.1, x.2.2.2.2.2.2.2.2.2.2.2.1, (x.2.2.2.2.2.2.2.1.1, ((((0 : Int32) + r12) + (0 : Int32)) &&& (4095 : Int32)), x.2.2.2.2.2.2.2.2.2.2.2.2.1.2.2), x.2.2.2.2.2.2.2.2.2.2.2.2.2.1, x.2.2.2.2.2.2.2.2.2.2.2.2.2.2))) hx hb hG inX5 tyX5 tyokX5 nmX5 hown hK hP hD hS 0 rfl rfl 32 (by decide) (hG _ kw286) (fun _ h9 => h9) rfl (by decide +kernel) rfl rfl (Nat.le_of_ble_eq_true rfl) dX5_address_107 rfl (fun H locs hP hD hS => ?_)
      refine lv_aload_n hx hb dX5_address_110 rfl (lv_at hl 4 rfl) ?_
      refine lv_iload hx hb dX5_address_111 (lv_at hl 1 rfl) ?_
      refine lv_if_eq (tgt := 133) hx hb dX5_address_113 (by decide) (fun _ => ?_) (fun h9 => absurd (by decide) h9)
      refine lv_aload_n hx hb dX5_address_133 rfl (lv_at hl 4 rfl) ?_
      refine va_get (D := D) (ci := 5) (v := .int (x.2.2.2.2.2.2.2.1.2.2)) hx hb hG inX5 hown hK hP 0 rfl rfl 17 (by decide) (hG _ kw309) (fun _ h9 => h9) rfl dX5_address_134 ?_
      refine pu (D := D) (ci := 5) (v := .int (x.2.2.2.2.2.2.2.1.2.2)) (ty := .int) (W' := (wM cI cJ ad (x.1, x.2.1, x.2.2.1, x.2.2.2.1, x.2.2.2.2.1, x.2.2.2.2.2.1, x.2.2.2.2.2.2.1, x.2.2.2.2.2.2.2.1, x.2.2.2.2.2.2.2.2.1, x.2.2.2.2.2.2.2.2.2.1, x.2.2.2.2.2.2.2.2.2.2.1, x.2.2.2.2.2.2.2.2.2.2.2.1, (x.2.2.2.2.2.2.2.1.1, ((((0 : Int32) + r12) + (0 : Int32)) &&& (4095 : Int32)), x.2.2.2.2.2.2.2.1.2.2), x.2.2.2.2.2.2.2.2.2.2.2.2.2.1, x.2.2.2.2.2.2.2.2.2.2.2.2.2.2))) hx hb hG inX5 tyX5 tyokX5 nmX5 hown hK hP hD hS 0 rfl rfl 33 (by decide) (hG _ kw287) (fun _ h9 => h9) rfl (by decide +kernel) rfl rfl (Nat.le_of_ble_eq_true rfl) dX5_address_137 rfl (fun H locs hP hD hS => ?_)
      refine lv_lload_n hx hb dX5_address_140 rfl (lv_at hl 5 rfl) ?_
      refine lv_bipush (v := 26) hx hb dX5_address_141 (by decide) ?_
      refine lv_iconst (v := 1) hx hb dX5_address_143 (by decide) ?_
      refine k0Si (As := [.long (a0), .int ((26 : Int32)), .int ((1 : Int32))]) (rest := []) hx hb hml hown hG hl (okX5_bits l D cI cJ cP  H.size a0 (26 : Int32) (1 : Int32) ) (cS 3 hG kw237 kw239 kw240 kw238 hdX5_bits ⟨by decide, by decide⟩) hK hP hD hS hA hN rfl rfl (Nat.le_of_ble_eq_true rfl) dX5_address_144 ⟨Nat.zero_le _, Nat.zero_le _⟩ (fun r18 q18 H locs hP hD hS => ?_)
      refine lv_iconst (v := 1) hx hb dX5_address_147 (by decide) ?_
      refine lv_icmp_ne (tgt := 155) hx hb dX5_address_148 (by decide) (fun h19 => ?_) (fun h19 => ?_)
      · refine lv_iconst (v := 0) hx hb dX5_address_155 (by decide) ?_
        refine lv_istore (lv' := [(7, .int ((0 : Int32))), (6, .int (r16)), (5, .int ((0 : Int32))), (4, .int (r13)), (3, .int (r12)), (0, .ref (ad 0)), (1, .long (a0))]) hx hb dX5_address_156 hl (by decide) rfl (fun ls hl => ?_)
        refine lv_iconst (v := 0) hx hb dX5_address_158 (by decide) ?_
        refine lv_istore (lv' := [(8, .int ((0 : Int32))), (7, .int ((0 : Int32))), (6, .int (r16)), (5, .int ((0 : Int32))), (4, .int (r13)), (3, .int (r12)), (0, .ref (ad 0)), (1, .long (a0))]) hx hb dX5_address_159 hl (by decide) rfl (fun ls hl => ?_)
        exact loop161 6 (0 : Int32) (0 : Int32) (x.1, x.2.1, x.2.2.1, x.2.2.2.1, x.2.2.2.2.1, x.2.2.2.2.2.1, x.2.2.2.2.2.2.1, x.2.2.2.2.2.2.2.1, x.2.2.2.2.2.2.2.2.1, x.2.2.2.2.2.2.2.2.2.1, x.2.2.2.2.2.2.2.2.2.2.1, x.2.2.2.2.2.2.2.2.2.2.2.1, (x.2.2.2.2.2.2.2.1.1, ((((0 : Int32) + r12) + (0 : Int32)) &&& (4095 : Int32)), x.2.2.2.2.2.2.2.1.2.2), x.2.2.2.2.2.2.2.2.2.2.2.2.2.1, x.2.2.2.2.2.2.2.2.2.2.2.2.2.2) _ _ _ (by decide) ⟨hI.1, hI.2.1, hI.2.2.1, hI.2.2.2.1, hI.2.2.2.2.1, hI.2.2.2.2.2.1, hI.2.2.2.2.2.2.1, ⟨hI.2.2.2.1.1, (mk12 _)⟩⟩ (by decide) hP hD hS (lv_sub hl [0, 1, 6] rfl) (by unfold fnX5_address; (try dsimp only); rw [← q12]; (try dsimp only); rw [← q13]; (try dsimp only); rw [← q14]; (try dsimp only); rw [if_neg h15]; rw [← q16]; (try dsimp only); rw [if_pos h17]; rw [← q18]; (try dsimp only); rw [if_neg h19]; (try exact rfl))
      · refine lv_iconst (v := 1) hx hb dX5_address_151 (by decide) ?_
        refine lv_goto (tgt := 156) hx hb dX5_address_152 (by decide) ?_
        refine lv_istore (lv' := [(7, .int ((1 : Int32))), (6, .int (r16)), (5, .int ((0 : Int32))), (4, .int (r13)), (3, .int (r12)), (0, .ref (ad 0)), (1, .long (a0))]) hx hb dX5_address_156 hl (by decide) rfl (fun ls hl => ?_)
        refine lv_iconst (v := 0) hx hb dX5_address_158 (by decide) ?_
        refine lv_istore (lv' := [(8, .int ((0 : Int32))), (7, .int ((1 : Int32))), (6, .int (r16)), (5, .int ((0 : Int32))), (4, .int (r13)), (3, .int (r12)), (0, .ref (ad 0)), (1, .long (a0))]) hx hb dX5_address_159 hl (by decide) rfl (fun ls hl => ?_)
        exact loop161 6 (0 : Int32) (1 : Int32) (x.1, x.2.1, x.2.2.1, x.2.2.2.1, x.2.2.2.2.1, x.2.2.2.2.2.1, x.2.2.2.2.2.2.1, x.2.2.2.2.2.2.2.1, x.2.2.2.2.2.2.2.2.1, x.2.2.2.2.2.2.2.2.2.1, x.2.2.2.2.2.2.2.2.2.2.1, x.2.2.2.2.2.2.2.2.2.2.2.1, (x.2.2.2.2.2.2.2.1.1, ((((0 : Int32) + r12) + (0 : Int32)) &&& (4095 : Int32)), x.2.2.2.2.2.2.2.1.2.2), x.2.2.2.2.2.2.2.2.2.2.2.2.2.1, x.2.2.2.2.2.2.2.2.2.2.2.2.2.2) _ _ _ (by decide) ⟨hI.1, hI.2.1, hI.2.2.1, hI.2.2.2.1, hI.2.2.2.2.1, hI.2.2.2.2.2.1, hI.2.2.2.2.2.2.1, ⟨hI.2.2.2.1.1, (mk12 _)⟩⟩ (by decide) hP hD hS (lv_sub hl [0, 1, 6] rfl) (by unfold fnX5_address; (try dsimp only); rw [← q12]; (try dsimp only); rw [← q13]; (try dsimp only); rw [← q14]; (try dsimp only); rw [if_neg h15]; rw [← q16]; (try dsimp only); rw [if_pos h17]; rw [← q18]; (try dsimp only); rw [if_pos h19]; (try exact rfl))
    · refine lv_aload_n hx hb dX5_address_91 rfl (lv_at hl 4 rfl) ?_
      refine va_get (D := D) (ci := 5) (v := .ref (ad 7)) hx hb hG inX5 hown hK hP 0 rfl rfl 11 (by decide) (hG _ kw335) (fun _ h9 => h9) rfl dX5_address_92 ?_
      refine lv_iload hx hb dX5_address_95 (lv_at hl 0 rfl) ?_
      refine gi (D := D) (j := (r16).toNatClampNeg) (f := x.2.2.2.2.2.1) hx hb hK hP 7 0 rfl rfl (in2 j16) rfl dX5_address_97 ?_
      refine lv_goto (tgt := 102) hx hb dX5_address_98 (by decide) ?_
      refine lv_iadd hx hb dX5_address_102 ?_
      refine lv_sipush (v := 4095) hx hb dX5_address_103 (by decide) ?_
      refine lv_iand hx hb dX5_address_106 ?_
      refine pu (D := D) (ci := 5) (v := .int (((((0 : Int32) + r12) + (x.2.2.2.2.2.1 (r16).toNatClampNeg)) &&& (4095 : Int32)))) (ty := .int) (W' := (wM cI cJ ad (x.1, x.2.1, x.2.2.1, x.2.2.2.1, x.2.2.2.2.1, x.2.2.2.2.2.1, x.2.2.2.2.2.2.1, x.2.2.2.2.2.2.2.1, x.2.2.2.2.2.2.2.2.1, x.2.2.2.2.2.2.2.2.2.1, x.2.2.2.2.2.2.2.2.2.2.1, x.2.2.2.2.2.2.2.2.2.2.2.1, (x.2.2.2.2.2.2.2.1.1, ((((0 : Int32) + r12) + (x.2.2.2.2.2.1 (r16).toNatClampNeg)) &&& (4095 : Int32)), x.2.2.2.2.2.2.2.2.2.2.2.2.1.2.2), x.2.2.2.2.2.2.2.2.2.2.2.2.2.1, x.2.2.2.2.2.2.2.2.2.2.2.2.2.2))) hx hb hG inX5 tyX5 tyokX5 nmX5 hown hK hP hD hS 0 rfl rfl 32 (by decide) (hG _ kw286) (fun _ h9 => h9) rfl (by decide +kernel) rfl rfl (Nat.le_of_ble_eq_true rfl) dX5_address_107 rfl (fun H locs hP hD hS => ?_)
      refine lv_aload_n hx hb dX5_address_110 rfl (lv_at hl 4 rfl) ?_
      refine lv_iload hx hb dX5_address_111 (lv_at hl 1 rfl) ?_
      refine lv_if_eq (tgt := 133) hx hb dX5_address_113 (by decide) (fun _ => ?_) (fun h9 => absurd (by decide) h9)
      refine lv_aload_n hx hb dX5_address_133 rfl (lv_at hl 4 rfl) ?_
      refine va_get (D := D) (ci := 5) (v := .int (x.2.2.2.2.2.2.2.1.2.2)) hx hb hG inX5 hown hK hP 0 rfl rfl 17 (by decide) (hG _ kw309) (fun _ h9 => h9) rfl dX5_address_134 ?_
      refine pu (D := D) (ci := 5) (v := .int (x.2.2.2.2.2.2.2.1.2.2)) (ty := .int) (W' := (wM cI cJ ad (x.1, x.2.1, x.2.2.1, x.2.2.2.1, x.2.2.2.2.1, x.2.2.2.2.2.1, x.2.2.2.2.2.2.1, x.2.2.2.2.2.2.2.1, x.2.2.2.2.2.2.2.2.1, x.2.2.2.2.2.2.2.2.2.1, x.2.2.2.2.2.2.2.2.2.2.1, x.2.2.2.2.2.2.2.2.2.2.2.1, (x.2.2.2.2.2.2.2.1.1, ((((0 : Int32) + r12) + (x.2.2.2.2.2.1 (r16).toNatClampNeg)) &&& (4095 : Int32)), x.2.2.2.2.2.2.2.1.2.2), x.2.2.2.2.2.2.2.2.2.2.2.2.2.1, x.2.2.2.2.2.2.2.2.2.2.2.2.2.2))) hx hb hG inX5 tyX5 tyokX5 nmX5 hown hK hP hD hS 0 rfl rfl 33 (by decide) (hG _ kw287) (fun _ h9 => h9) rfl (by decide +kernel) rfl rfl (Nat.le_of_ble_eq_true rfl) dX5_address_137 rfl (fun H locs hP hD hS => ?_)
      refine lv_lload_n hx hb dX5_address_140 rfl (lv_at hl 5 rfl) ?_
      refine lv_bipush (v := 26) hx hb dX5_address_141 (by decide) ?_
      refine lv_iconst (v := 1) hx hb dX5_address_143 (by decide) ?_
      refine k0Si (As := [.long (a0), .int ((26 : Int32)), .int ((1 : Int32))]) (rest := []) hx hb hml hown hG hl (okX5_bits l D cI cJ cP  H.size a0 (26 : Int32) (1 : Int32) ) (cS 3 hG kw237 kw239 kw240 kw238 hdX5_bits ⟨by decide, by decide⟩) hK hP hD hS hA hN rfl rfl (Nat.le_of_ble_eq_true rfl) dX5_address_144 ⟨Nat.zero_le _, Nat.zero_le _⟩ (fun r20 q20 H locs hP hD hS => ?_)
      refine lv_iconst (v := 1) hx hb dX5_address_147 (by decide) ?_
      refine lv_icmp_ne (tgt := 155) hx hb dX5_address_148 (by decide) (fun h21 => ?_) (fun h21 => ?_)
      · refine lv_iconst (v := 0) hx hb dX5_address_155 (by decide) ?_
        refine lv_istore (lv' := [(7, .int ((0 : Int32))), (6, .int (r16)), (5, .int ((0 : Int32))), (4, .int (r13)), (3, .int (r12)), (0, .ref (ad 0)), (1, .long (a0))]) hx hb dX5_address_156 hl (by decide) rfl (fun ls hl => ?_)
        refine lv_iconst (v := 0) hx hb dX5_address_158 (by decide) ?_
        refine lv_istore (lv' := [(8, .int ((0 : Int32))), (7, .int ((0 : Int32))), (6, .int (r16)), (5, .int ((0 : Int32))), (4, .int (r13)), (3, .int (r12)), (0, .ref (ad 0)), (1, .long (a0))]) hx hb dX5_address_159 hl (by decide) rfl (fun ls hl => ?_)
        exact loop161 6 (0 : Int32) (0 : Int32) (x.1, x.2.1, x.2.2.1, x.2.2.2.1, x.2.2.2.2.1, x.2.2.2.2.2.1, x.2.2.2.2.2.2.1, x.2.2.2.2.2.2.2.1, x.2.2.2.2.2.2.2.2.1, x.2.2.2.2.2.2.2.2.2.1, x.2.2.2.2.2.2.2.2.2.2.1, x.2.2.2.2.2.2.2.2.2.2.2.1, (x.2.2.2.2.2.2.2.1.1, ((((0 : Int32) + r12) + (x.2.2.2.2.2.1 (r16).toNatClampNeg)) &&& (4095 : Int32)), x.2.2.2.2.2.2.2.1.2.2), x.2.2.2.2.2.2.2.2.2.2.2.2.2.1, x.2.2.2.2.2.2.2.2.2.2.2.2.2.2) _ _ _ (by decide) ⟨hI.1, hI.2.1, hI.2.2.1, hI.2.2.2.1, hI.2.2.2.2.1, hI.2.2.2.2.2.1, hI.2.2.2.2.2.2.1, ⟨hI.2.2.2.1.1, (mk12 _)⟩⟩ (by decide) hP hD hS (lv_sub hl [0, 1, 6] rfl) (by unfold fnX5_address; (try dsimp only); rw [← q12]; (try dsimp only); rw [← q13]; (try dsimp only); rw [← q14]; (try dsimp only); rw [if_neg h15]; rw [← q16]; (try dsimp only); rw [if_neg h17]; rw [← q20]; (try dsimp only); rw [if_neg h21]; (try exact rfl))
      · refine lv_iconst (v := 1) hx hb dX5_address_151 (by decide) ?_
        refine lv_goto (tgt := 156) hx hb dX5_address_152 (by decide) ?_
        refine lv_istore (lv' := [(7, .int ((1 : Int32))), (6, .int (r16)), (5, .int ((0 : Int32))), (4, .int (r13)), (3, .int (r12)), (0, .ref (ad 0)), (1, .long (a0))]) hx hb dX5_address_156 hl (by decide) rfl (fun ls hl => ?_)
        refine lv_iconst (v := 0) hx hb dX5_address_158 (by decide) ?_
        refine lv_istore (lv' := [(8, .int ((0 : Int32))), (7, .int ((1 : Int32))), (6, .int (r16)), (5, .int ((0 : Int32))), (4, .int (r13)), (3, .int (r12)), (0, .ref (ad 0)), (1, .long (a0))]) hx hb dX5_address_159 hl (by decide) rfl (fun ls hl => ?_)
        exact loop161 6 (0 : Int32) (1 : Int32) (x.1, x.2.1, x.2.2.1, x.2.2.2.1, x.2.2.2.2.1, x.2.2.2.2.2.1, x.2.2.2.2.2.2.1, x.2.2.2.2.2.2.2.1, x.2.2.2.2.2.2.2.2.1, x.2.2.2.2.2.2.2.2.2.1, x.2.2.2.2.2.2.2.2.2.2.1, x.2.2.2.2.2.2.2.2.2.2.2.1, (x.2.2.2.2.2.2.2.1.1, ((((0 : Int32) + r12) + (x.2.2.2.2.2.1 (r16).toNatClampNeg)) &&& (4095 : Int32)), x.2.2.2.2.2.2.2.1.2.2), x.2.2.2.2.2.2.2.2.2.2.2.2.2.1, x.2.2.2.2.2.2.2.2.2.2.2.2.2.2) _ _ _ (by decide) ⟨hI.1, hI.2.1, hI.2.2.1, hI.2.2.2.1, hI.2.2.2.2.1, hI.2.2.2.2.2.1, hI.2.2.2.2.2.2.1, ⟨hI.2.2.2.1.1, (mk12 _)⟩⟩ (by decide) hP hD hS (lv_sub hl [0, 1, 6] rfl) (by unfold fnX5_address; (try dsimp only); rw [← q12]; (try dsimp only); rw [← q13]; (try dsimp only); rw [← q14]; (try dsimp only); rw [if_neg h15]; rw [← q16]; (try dsimp only); rw [if_neg h17]; rw [← q20]; (try dsimp only); rw [if_pos h21]; (try exact rfl))
  · refine lv_iconst (v := 1) hx hb dX5_address_28 (by decide) ?_
    refine lv_goto (tgt := 33) hx hb dX5_address_29 (by decide) ?_
    refine lv_istore (lv' := [(5, .int ((1 : Int32))), (4, .int (r13)), (3, .int (r12)), (0, .ref (ad 0)), (1, .long (a0))]) hx hb dX5_address_33 hl (by decide) rfl (fun ls hl => ?_)
    refine lv_lload_n hx hb dX5_address_35 rfl (lv_at hl 4 rfl) ?_
    refine lv_bipush (v := 24) hx hb dX5_address_36 (by decide) ?_
    refine lv_iconst (v := 2) hx hb dX5_address_38 (by decide) ?_
    refine k0Si (As := [.long (a0), .int ((24 : Int32)), .int ((2 : Int32))]) (rest := []) hx hb hml hown hG hl (okX5_bits l D cI cJ cP  H.size a0 (24 : Int32) (2 : Int32) ) (cS 3 hG kw237 kw239 kw240 kw238 hdX5_bits ⟨by decide, by decide⟩) hK hP hD hS hA hN rfl rfl (Nat.le_of_ble_eq_true rfl) dX5_address_39 ⟨Nat.zero_le _, Nat.zero_le _⟩ (fun r22 q22 H locs hP hD hS => ?_)
    have j22 : i2 r22 := by rw [q22]; exact (f2M a0 (24 : Int32))
    refine lv_istore (lv' := [(6, .int (r22)), (5, .int ((1 : Int32))), (4, .int (r13)), (3, .int (r12)), (0, .ref (ad 0)), (1, .long (a0))]) hx hb dX5_address_42 hl (by decide) rfl (fun ls hl => ?_)
    refine lv_aload_n hx hb dX5_address_44 rfl (lv_at hl 4 rfl) ?_
    refine lv_iload hx hb dX5_address_45 (lv_at hl 1 rfl) ?_
    refine lv_if_eq (tgt := 60) hx hb dX5_address_47 (by decide) (fun h9 => absurd h9 (by decide)) (fun _ => ?_)
    refine lv_aload_n hx hb dX5_address_50 rfl (lv_at hl 4 rfl) ?_
    refine va_get (D := D) (ci := 5) (v := .ref (ad 8)) hx hb hG inX5 hown hK hP 0 rfl rfl 12 (by decide) (hG _ kw293) (fun _ h9 => h9) rfl dX5_address_51 ?_
    refine lv_iload hx hb dX5_address_54 (lv_at hl 2 rfl) ?_
    refine gi (D := D) (j := (r13).toNatClampNeg) (f := x.2.2.2.2.2.2.1.1) hx hb hK hP 8 0 rfl rfl (in2 j13) rfl dX5_address_56 ?_
    refine lv_goto (tgt := 64) hx hb dX5_address_57 (by decide) ?_
    refine pu (D := D) (ci := 5) (v := .int ((x.2.2.2.2.2.2.1.1 (r13).toNatClampNeg))) (ty := .int) (W' := (wM cI cJ ad (x.1, x.2.1, x.2.2.1, x.2.2.2.1, x.2.2.2.2.1, x.2.2.2.2.2.1, x.2.2.2.2.2.2.1, x.2.2.2.2.2.2.2.1, x.2.2.2.2.2.2.2.2.1, x.2.2.2.2.2.2.2.2.2.1, x.2.2.2.2.2.2.2.2.2.2.1, x.2.2.2.2.2.2.2.2.2.2.2.1, ((x.2.2.2.2.2.2.1.1 (r13).toNatClampNeg), x.2.2.2.2.2.2.2.2.2.2.2.2.1.2.1, x.2.2.2.2.2.2.2.2.2.2.2.2.1.2.2), x.2.2.2.2.2.2.2.2.2.2.2.2.2.1, x.2.2.2.2.2.2.2.2.2.2.2.2.2.2))) hx hb hG inX5 tyX5 tyokX5 nmX5 hown hK hP hD hS 0 rfl rfl 31 (by decide) (hG _ kw285) (fun _ h9 => h9) rfl (by decide +kernel) rfl rfl (Nat.le_of_ble_eq_true rfl) dX5_address_64 rfl (fun H locs hP hD hS => ?_)
    refine lv_aload_n hx hb dX5_address_67 rfl (lv_at hl 4 rfl) ?_
    refine lv_iload hx hb dX5_address_68 (lv_at hl 1 rfl) ?_
    refine lv_if_eq (tgt := 83) hx hb dX5_address_70 (by decide) (fun h9 => absurd h9 (by decide)) (fun _ => ?_)
    refine lv_aload_n hx hb dX5_address_73 rfl (lv_at hl 4 rfl) ?_
    refine va_get (D := D) (ci := 5) (v := .ref (ad 9)) hx hb hG inX5 hown hK hP 0 rfl rfl 13 (by decide) (hG _ kw294) (fun _ h9 => h9) rfl dX5_address_74 ?_
    refine lv_iload hx hb dX5_address_77 (lv_at hl 2 rfl) ?_
    refine gi (D := D) (j := (r13).toNatClampNeg) (f := x.2.2.2.2.2.2.1.2.1) hx hb hK hP 9 0 rfl rfl (in2 j13) rfl dX5_address_79 ?_
    refine lv_goto (tgt := 84) hx hb dX5_address_80 (by decide) ?_
    refine lv_iload_n hx hb dX5_address_84 rfl (lv_at hl 3 rfl) ?_
    refine lv_iadd hx hb dX5_address_85 ?_
    refine lv_iload hx hb dX5_address_86 (lv_at hl 0 rfl) ?_
    refine lv_if_le (tgt := 101) hx hb dX5_address_88 (by decide) (fun h23 => ?_) (fun h23 => ?_)
    · refine lv_iconst (v := 0) hx hb dX5_address_101 (by decide) ?_
      refine lv_iadd hx hb dX5_address_102 ?_
      refine lv_sipush (v := 4095) hx hb dX5_address_103 (by decide) ?_
      refine lv_iand hx hb dX5_address_106 ?_
      refine pu (D := D) (ci := 5) (v := .int (((((x.2.2.2.2.2.2.1.2.1 (r13).toNatClampNeg) + r12) + (0 : Int32)) &&& (4095 : Int32)))) (ty := .int) (W' := (wM cI cJ ad (x.1, x.2.1, x.2.2.1, x.2.2.2.1, x.2.2.2.2.1, x.2.2.2.2.2.1, x.2.2.2.2.2.2.1, x.2.2.2.2.2.2.2.1, x.2.2.2.2.2.2.2.2.1, x.2.2.2.2.2.2.2.2.2.1, x.2.2.2.2.2.2.2.2.2.2.1, x.2.2.2.2.2.2.2.2.2.2.2.1, ((x.2.2.2.2.2.2.1.1 (r13).toNatClampNeg), ((((x.2.2.2.2.2.2.1.2.1 (r13).toNatClampNeg) + r12) + (0 : Int32)) &&& (4095 : Int32)), x.2.2.2.2.2.2.2.2.2.2.2.2.1.2.2), x.2.2.2.2.2.2.2.2.2.2.2.2.2.1, x.2.2.2.2.2.2.2.2.2.2.2.2.2.2))) hx hb hG inX5 tyX5 tyokX5 nmX5 hown hK hP hD hS 0 rfl rfl 32 (by decide) (hG _ kw286) (fun _ h9 => h9) rfl (by decide +kernel) rfl rfl (Nat.le_of_ble_eq_true rfl) dX5_address_107 rfl (fun H locs hP hD hS => ?_)
      refine lv_aload_n hx hb dX5_address_110 rfl (lv_at hl 4 rfl) ?_
      refine lv_iload hx hb dX5_address_111 (lv_at hl 1 rfl) ?_
      refine lv_if_eq (tgt := 133) hx hb dX5_address_113 (by decide) (fun h9 => absurd h9 (by decide)) (fun _ => ?_)
      refine lv_aload_n hx hb dX5_address_116 rfl (lv_at hl 4 rfl) ?_
      refine va_get (D := D) (ci := 5) (v := .int (x.2.2.2.2.2.2.2.1.2.2)) hx hb hG inX5 hown hK hP 0 rfl rfl 17 (by decide) (hG _ kw309) (fun _ h9 => h9) rfl dX5_address_117 ?_
      refine lv_aload_n hx hb dX5_address_120 rfl (lv_at hl 4 rfl) ?_
      refine va_get (D := D) (ci := 5) (v := .ref (ad 10)) hx hb hG inX5 hown hK hP 0 rfl rfl 14 (by decide) (hG _ kw295) (fun _ h9 => h9) rfl dX5_address_121 ?_
      refine lv_iload hx hb dX5_address_124 (lv_at hl 2 rfl) ?_
      refine gi (D := D) (j := (r13).toNatClampNeg) (f := x.2.2.2.2.2.2.1.2.2) hx hb hK hP 10 0 rfl rfl (in2 j13) rfl dX5_address_126 ?_
      refine k0Si (As := [.int (x.2.2.2.2.2.2.2.1.2.2), .int ((x.2.2.2.2.2.2.1.2.2 (r13).toNatClampNeg))]) (rest := [.ref (ad 0)]) hx hb hml hown hG hl (okX5_greater l D cI cJ cP  H.size x.2.2.2.2.2.2.2.1.2.2 (x.2.2.2.2.2.2.1.2.2 (r13).toNatClampNeg) ) (cS 2 hG kw296 kw297 kw298 kw238 hdX5_greater ⟨by decide, by decide⟩) hK hP hD hS hA hN rfl rfl (Nat.le_of_ble_eq_true rfl) dX5_address_127 ⟨Nat.zero_le _, Nat.zero_le _⟩ (fun r24 q24 H locs hP hD hS => ?_)
      refine lv_goto (tgt := 137) hx hb dX5_address_130 (by decide) ?_
      refine pu (D := D) (ci := 5) (v := .int (r24)) (ty := .int) (W' := (wM cI cJ ad (x.1, x.2.1, x.2.2.1, x.2.2.2.1, x.2.2.2.2.1, x.2.2.2.2.2.1, x.2.2.2.2.2.2.1, x.2.2.2.2.2.2.2.1, x.2.2.2.2.2.2.2.2.1, x.2.2.2.2.2.2.2.2.2.1, x.2.2.2.2.2.2.2.2.2.2.1, x.2.2.2.2.2.2.2.2.2.2.2.1, ((x.2.2.2.2.2.2.1.1 (r13).toNatClampNeg), ((((x.2.2.2.2.2.2.1.2.1 (r13).toNatClampNeg) + r12) + (0 : Int32)) &&& (4095 : Int32)), r24), x.2.2.2.2.2.2.2.2.2.2.2.2.2.1, x.2.2.2.2.2.2.2.2.2.2.2.2.2.2))) hx hb hG inX5 tyX5 tyokX5 nmX5 hown hK hP hD hS 0 rfl rfl 33 (by decide) (hG _ kw287) (fun _ h9 => h9) rfl (by decide +kernel) rfl rfl (Nat.le_of_ble_eq_true rfl) dX5_address_137 rfl (fun H locs hP hD hS => ?_)
      refine lv_lload_n hx hb dX5_address_140 rfl (lv_at hl 5 rfl) ?_
      refine lv_bipush (v := 26) hx hb dX5_address_141 (by decide) ?_
      refine lv_iconst (v := 1) hx hb dX5_address_143 (by decide) ?_
      refine k0Si (As := [.long (a0), .int ((26 : Int32)), .int ((1 : Int32))]) (rest := []) hx hb hml hown hG hl (okX5_bits l D cI cJ cP  H.size a0 (26 : Int32) (1 : Int32) ) (cS 3 hG kw237 kw239 kw240 kw238 hdX5_bits ⟨by decide, by decide⟩) hK hP hD hS hA hN rfl rfl (Nat.le_of_ble_eq_true rfl) dX5_address_144 ⟨Nat.zero_le _, Nat.zero_le _⟩ (fun r25 q25 H locs hP hD hS => ?_)
      refine lv_iconst (v := 1) hx hb dX5_address_147 (by decide) ?_
      refine lv_icmp_ne (tgt := 155) hx hb dX5_address_148 (by decide) (fun h26 => ?_) (fun h26 => ?_)
      · refine lv_iconst (v := 0) hx hb dX5_address_155 (by decide) ?_
        refine lv_istore (lv' := [(7, .int ((0 : Int32))), (6, .int (r22)), (5, .int ((1 : Int32))), (4, .int (r13)), (3, .int (r12)), (0, .ref (ad 0)), (1, .long (a0))]) hx hb dX5_address_156 hl (by decide) rfl (fun ls hl => ?_)
        refine lv_iconst (v := 0) hx hb dX5_address_158 (by decide) ?_
        refine lv_istore (lv' := [(8, .int ((0 : Int32))), (7, .int ((0 : Int32))), (6, .int (r22)), (5, .int ((1 : Int32))), (4, .int (r13)), (3, .int (r12)), (0, .ref (ad 0)), (1, .long (a0))]) hx hb dX5_address_159 hl (by decide) rfl (fun ls hl => ?_)
        exact loop161 6 (0 : Int32) (0 : Int32) (x.1, x.2.1, x.2.2.1, x.2.2.2.1, x.2.2.2.2.1, x.2.2.2.2.2.1, x.2.2.2.2.2.2.1, x.2.2.2.2.2.2.2.1, x.2.2.2.2.2.2.2.2.1, x.2.2.2.2.2.2.2.2.2.1, x.2.2.2.2.2.2.2.2.2.2.1, x.2.2.2.2.2.2.2.2.2.2.2.1, ((x.2.2.2.2.2.2.1.1 (r13).toNatClampNeg), ((((x.2.2.2.2.2.2.1.2.1 (r13).toNatClampNeg) + r12) + (0 : Int32)) &&& (4095 : Int32)), r24), x.2.2.2.2.2.2.2.2.2.2.2.2.2.1, x.2.2.2.2.2.2.2.2.2.2.2.2.2.2) _ _ _ (by decide) ⟨hI.1, hI.2.1, hI.2.2.1, hI.2.2.2.1, hI.2.2.2.2.1, hI.2.2.2.2.2.1, hI.2.2.2.2.2.2.1, ⟨(hI.2.2.1.1 (r13).toNatClampNeg), (mk12 _)⟩⟩ (by decide) hP hD hS (lv_sub hl [0, 1, 6] rfl) (by unfold fnX5_address; (try dsimp only); rw [← q12]; (try dsimp only); rw [← q13]; (try dsimp only); rw [← q14]; (try dsimp only); rw [if_pos h15]; rw [← q22]; (try dsimp only); rw [if_pos h23]; rw [← q24]; (try dsimp only); rw [← q25]; (try dsimp only); rw [if_neg h26]; (try exact rfl))
      · refine lv_iconst (v := 1) hx hb dX5_address_151 (by decide) ?_
        refine lv_goto (tgt := 156) hx hb dX5_address_152 (by decide) ?_
        refine lv_istore (lv' := [(7, .int ((1 : Int32))), (6, .int (r22)), (5, .int ((1 : Int32))), (4, .int (r13)), (3, .int (r12)), (0, .ref (ad 0)), (1, .long (a0))]) hx hb dX5_address_156 hl (by decide) rfl (fun ls hl => ?_)
        refine lv_iconst (v := 0) hx hb dX5_address_158 (by decide) ?_
        refine lv_istore (lv' := [(8, .int ((0 : Int32))), (7, .int ((1 : Int32))), (6, .int (r22)), (5, .int ((1 : Int32))), (4, .int (r13)), (3, .int (r12)), (0, .ref (ad 0)), (1, .long (a0))]) hx hb dX5_address_159 hl (by decide) rfl (fun ls hl => ?_)
        exact loop161 6 (0 : Int32) (1 : Int32) (x.1, x.2.1, x.2.2.1, x.2.2.2.1, x.2.2.2.2.1, x.2.2.2.2.2.1, x.2.2.2.2.2.2.1, x.2.2.2.2.2.2.2.1, x.2.2.2.2.2.2.2.2.1, x.2.2.2.2.2.2.2.2.2.1, x.2.2.2.2.2.2.2.2.2.2.1, x.2.2.2.2.2.2.2.2.2.2.2.1, ((x.2.2.2.2.2.2.1.1 (r13).toNatClampNeg), ((((x.2.2.2.2.2.2.1.2.1 (r13).toNatClampNeg) + r12) + (0 : Int32)) &&& (4095 : Int32)), r24), x.2.2.2.2.2.2.2.2.2.2.2.2.2.1, x.2.2.2.2.2.2.2.2.2.2.2.2.2.2) _ _ _ (by decide) ⟨hI.1, hI.2.1, hI.2.2.1, hI.2.2.2.1, hI.2.2.2.2.1, hI.2.2.2.2.2.1, hI.2.2.2.2.2.2.1, ⟨(hI.2.2.1.1 (r13).toNatClampNeg), (mk12 _)⟩⟩ (by decide) hP hD hS (lv_sub hl [0, 1, 6] rfl) (by unfold fnX5_address; (try dsimp only); rw [← q12]; (try dsimp only); rw [← q13]; (try dsimp only); rw [← q14]; (try dsimp only); rw [if_pos h15]; rw [← q22]; (try dsimp only); rw [if_pos h23]; rw [← q24]; (try dsimp only); rw [← q25]; (try dsimp only); rw [if_pos h26]; (try exact rfl))
    · refine lv_aload_n hx hb dX5_address_91 rfl (lv_at hl 4 rfl) ?_
      refine va_get (D := D) (ci := 5) (v := .ref (ad 7)) hx hb hG inX5 hown hK hP 0 rfl rfl 11 (by decide) (hG _ kw335) (fun _ h9 => h9) rfl dX5_address_92 ?_
      refine lv_iload hx hb dX5_address_95 (lv_at hl 0 rfl) ?_
      refine gi (D := D) (j := (r22).toNatClampNeg) (f := x.2.2.2.2.2.1) hx hb hK hP 7 0 rfl rfl (in2 j22) rfl dX5_address_97 ?_
      refine lv_goto (tgt := 102) hx hb dX5_address_98 (by decide) ?_
      refine lv_iadd hx hb dX5_address_102 ?_
      refine lv_sipush (v := 4095) hx hb dX5_address_103 (by decide) ?_
      refine lv_iand hx hb dX5_address_106 ?_
      refine pu (D := D) (ci := 5) (v := .int (((((x.2.2.2.2.2.2.1.2.1 (r13).toNatClampNeg) + r12) + (x.2.2.2.2.2.1 (r22).toNatClampNeg)) &&& (4095 : Int32)))) (ty := .int) (W' := (wM cI cJ ad (x.1, x.2.1, x.2.2.1, x.2.2.2.1, x.2.2.2.2.1, x.2.2.2.2.2.1, x.2.2.2.2.2.2.1, x.2.2.2.2.2.2.2.1, x.2.2.2.2.2.2.2.2.1, x.2.2.2.2.2.2.2.2.2.1, x.2.2.2.2.2.2.2.2.2.2.1, x.2.2.2.2.2.2.2.2.2.2.2.1, ((x.2.2.2.2.2.2.1.1 (r13).toNatClampNeg), ((((x.2.2.2.2.2.2.1.2.1 (r13).toNatClampNeg) + r12) + (x.2.2.2.2.2.1 (r22).toNatClampNeg)) &&& (4095 : Int32)), x.2.2.2.2.2.2.2.2.2.2.2.2.1.2.2), x.2.2.2.2.2.2.2.2.2.2.2.2.2.1, x.2.2.2.2.2.2.2.2.2.2.2.2.2.2))) hx hb hG inX5 tyX5 tyokX5 nmX5 hown hK hP hD hS 0 rfl rfl 32 (by decide) (hG _ kw286) (fun _ h9 => h9) rfl (by decide +kernel) rfl rfl (Nat.le_of_ble_eq_true rfl) dX5_address_107 rfl (fun H locs hP hD hS => ?_)
      refine lv_aload_n hx hb dX5_address_110 rfl (lv_at hl 4 rfl) ?_
      refine lv_iload hx hb dX5_address_111 (lv_at hl 1 rfl) ?_
      refine lv_if_eq (tgt := 133) hx hb dX5_address_113 (by decide) (fun h9 => absurd h9 (by decide)) (fun _ => ?_)
      refine lv_aload_n hx hb dX5_address_116 rfl (lv_at hl 4 rfl) ?_
      refine va_get (D := D) (ci := 5) (v := .int (x.2.2.2.2.2.2.2.1.2.2)) hx hb hG inX5 hown hK hP 0 rfl rfl 17 (by decide) (hG _ kw309) (fun _ h9 => h9) rfl dX5_address_117 ?_
      refine lv_aload_n hx hb dX5_address_120 rfl (lv_at hl 4 rfl) ?_
      refine va_get (D := D) (ci := 5) (v := .ref (ad 10)) hx hb hG inX5 hown hK hP 0 rfl rfl 14 (by decide) (hG _ kw295) (fun _ h9 => h9) rfl dX5_address_121 ?_
      refine lv_iload hx hb dX5_address_124 (lv_at hl 2 rfl) ?_
      refine gi (D := D) (j := (r13).toNatClampNeg) (f := x.2.2.2.2.2.2.1.2.2) hx hb hK hP 10 0 rfl rfl (in2 j13) rfl dX5_address_126 ?_
      refine k0Si (As := [.int (x.2.2.2.2.2.2.2.1.2.2), .int ((x.2.2.2.2.2.2.1.2.2 (r13).toNatClampNeg))]) (rest := [.ref (ad 0)]) hx hb hml hown hG hl (okX5_greater l D cI cJ cP  H.size x.2.2.2.2.2.2.2.1.2.2 (x.2.2.2.2.2.2.1.2.2 (r13).toNatClampNeg) ) (cS 2 hG kw296 kw297 kw298 kw238 hdX5_greater ⟨by decide, by decide⟩) hK hP hD hS hA hN rfl rfl (Nat.le_of_ble_eq_true rfl) dX5_address_127 ⟨Nat.zero_le _, Nat.zero_le _⟩ (fun r27 q27 H locs hP hD hS => ?_)
      refine lv_goto (tgt := 137) hx hb dX5_address_130 (by decide) ?_
      refine pu (D := D) (ci := 5) (v := .int (r27)) (ty := .int) (W' := (wM cI cJ ad (x.1, x.2.1, x.2.2.1, x.2.2.2.1, x.2.2.2.2.1, x.2.2.2.2.2.1, x.2.2.2.2.2.2.1, x.2.2.2.2.2.2.2.1, x.2.2.2.2.2.2.2.2.1, x.2.2.2.2.2.2.2.2.2.1, x.2.2.2.2.2.2.2.2.2.2.1, x.2.2.2.2.2.2.2.2.2.2.2.1, ((x.2.2.2.2.2.2.1.1 (r13).toNatClampNeg), ((((x.2.2.2.2.2.2.1.2.1 (r13).toNatClampNeg) + r12) + (x.2.2.2.2.2.1 (r22).toNatClampNeg)) &&& (4095 : Int32)), r27), x.2.2.2.2.2.2.2.2.2.2.2.2.2.1, x.2.2.2.2.2.2.2.2.2.2.2.2.2.2))) hx hb hG inX5 tyX5 tyokX5 nmX5 hown hK hP hD hS 0 rfl rfl 33 (by decide) (hG _ kw287) (fun _ h9 => h9) rfl (by decide +kernel) rfl rfl (Nat.le_of_ble_eq_true rfl) dX5_address_137 rfl (fun H locs hP hD hS => ?_)
      refine lv_lload_n hx hb dX5_address_140 rfl (lv_at hl 5 rfl) ?_
      refine lv_bipush (v := 26) hx hb dX5_address_141 (by decide) ?_
      refine lv_iconst (v := 1) hx hb dX5_address_143 (by decide) ?_
      refine k0Si (As := [.long (a0), .int ((26 : Int32)), .int ((1 : Int32))]) (rest := []) hx hb hml hown hG hl (okX5_bits l D cI cJ cP  H.size a0 (26 : Int32) (1 : Int32) ) (cS 3 hG kw237 kw239 kw240 kw238 hdX5_bits ⟨by decide, by decide⟩) hK hP hD hS hA hN rfl rfl (Nat.le_of_ble_eq_true rfl) dX5_address_144 ⟨Nat.zero_le _, Nat.zero_le _⟩ (fun r28 q28 H locs hP hD hS => ?_)
      refine lv_iconst (v := 1) hx hb dX5_address_147 (by decide) ?_
      refine lv_icmp_ne (tgt := 155) hx hb dX5_address_148 (by decide) (fun h29 => ?_) (fun h29 => ?_)
      · refine lv_iconst (v := 0) hx hb dX5_address_155 (by decide) ?_
        refine lv_istore (lv' := [(7, .int ((0 : Int32))), (6, .int (r22)), (5, .int ((1 : Int32))), (4, .int (r13)), (3, .int (r12)), (0, .ref (ad 0)), (1, .long (a0))]) hx hb dX5_address_156 hl (by decide) rfl (fun ls hl => ?_)
        refine lv_iconst (v := 0) hx hb dX5_address_158 (by decide) ?_
        refine lv_istore (lv' := [(8, .int ((0 : Int32))), (7, .int ((0 : Int32))), (6, .int (r22)), (5, .int ((1 : Int32))), (4, .int (r13)), (3, .int (r12)), (0, .ref (ad 0)), (1, .long (a0))]) hx hb dX5_address_159 hl (by decide) rfl (fun ls hl => ?_)
        exact loop161 6 (0 : Int32) (0 : Int32) (x.1, x.2.1, x.2.2.1, x.2.2.2.1, x.2.2.2.2.1, x.2.2.2.2.2.1, x.2.2.2.2.2.2.1, x.2.2.2.2.2.2.2.1, x.2.2.2.2.2.2.2.2.1, x.2.2.2.2.2.2.2.2.2.1, x.2.2.2.2.2.2.2.2.2.2.1, x.2.2.2.2.2.2.2.2.2.2.2.1, ((x.2.2.2.2.2.2.1.1 (r13).toNatClampNeg), ((((x.2.2.2.2.2.2.1.2.1 (r13).toNatClampNeg) + r12) + (x.2.2.2.2.2.1 (r22).toNatClampNeg)) &&& (4095 : Int32)), r27), x.2.2.2.2.2.2.2.2.2.2.2.2.2.1, x.2.2.2.2.2.2.2.2.2.2.2.2.2.2) _ _ _ (by decide) ⟨hI.1, hI.2.1, hI.2.2.1, hI.2.2.2.1, hI.2.2.2.2.1, hI.2.2.2.2.2.1, hI.2.2.2.2.2.2.1, ⟨(hI.2.2.1.1 (r13).toNatClampNeg), (mk12 _)⟩⟩ (by decide) hP hD hS (lv_sub hl [0, 1, 6] rfl) (by unfold fnX5_address; (try dsimp only); rw [← q12]; (try dsimp only); rw [← q13]; (try dsimp only); rw [← q14]; (try dsimp only); rw [if_pos h15]; rw [← q22]; (try dsimp only); rw [if_neg h23]; rw [← q27]; (try dsimp only); rw [← q28]; (try dsimp only); rw [if_neg h29]; (try exact rfl))
      · refine lv_iconst (v := 1) hx hb dX5_address_151 (by decide) ?_
        refine lv_goto (tgt := 156) hx hb dX5_address_152 (by decide) ?_
        refine lv_istore (lv' := [(7, .int ((1 : Int32))), (6, .int (r22)), (5, .int ((1 : Int32))), (4, .int (r13)), (3, .int (r12)), (0, .ref (ad 0)), (1, .long (a0))]) hx hb dX5_address_156 hl (by decide) rfl (fun ls hl => ?_)
        refine lv_iconst (v := 0) hx hb dX5_address_158 (by decide) ?_
        refine lv_istore (lv' := [(8, .int ((0 : Int32))), (7, .int ((1 : Int32))), (6, .int (r22)), (5, .int ((1 : Int32))), (4, .int (r13)), (3, .int (r12)), (0, .ref (ad 0)), (1, .long (a0))]) hx hb dX5_address_159 hl (by decide) rfl (fun ls hl => ?_)
        exact loop161 6 (0 : Int32) (1 : Int32) (x.1, x.2.1, x.2.2.1, x.2.2.2.1, x.2.2.2.2.1, x.2.2.2.2.2.1, x.2.2.2.2.2.2.1, x.2.2.2.2.2.2.2.1, x.2.2.2.2.2.2.2.2.1, x.2.2.2.2.2.2.2.2.2.1, x.2.2.2.2.2.2.2.2.2.2.1, x.2.2.2.2.2.2.2.2.2.2.2.1, ((x.2.2.2.2.2.2.1.1 (r13).toNatClampNeg), ((((x.2.2.2.2.2.2.1.2.1 (r13).toNatClampNeg) + r12) + (x.2.2.2.2.2.1 (r22).toNatClampNeg)) &&& (4095 : Int32)), r27), x.2.2.2.2.2.2.2.2.2.2.2.2.2.1, x.2.2.2.2.2.2.2.2.2.2.2.2.2.2) _ _ _ (by decide) ⟨hI.1, hI.2.1, hI.2.2.1, hI.2.2.2.1, hI.2.2.2.2.1, hI.2.2.2.2.2.1, hI.2.2.2.2.2.2.1, ⟨(hI.2.2.1.1 (r13).toNatClampNeg), (mk12 _)⟩⟩ (by decide) hP hD hS (lv_sub hl [0, 1, 6] rfl) (by unfold fnX5_address; (try dsimp only); rw [← q12]; (try dsimp only); rw [← q13]; (try dsimp only); rw [← q14]; (try dsimp only); rw [if_pos h15]; rw [← q22]; (try dsimp only); rw [if_neg h23]; rw [← q27]; (try dsimp only); rw [← q28]; (try dsimp only); rw [if_pos h29]; (try exact rfl))
