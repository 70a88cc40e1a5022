def fnX5_look (x : TM) (a0 : Int32) : TM :=
  let p1 := fnX5_findDescriptor x a0
  if (0 : Int32) ≤ p1 then
   if p1 = (0 : Int32) then
    (x.1, x.2.1, (x.2.2.1.1, (upd x.2.2.1.2.1 0 a0), (vp_updL x.2.2.1.2.2.1 0 (x.2.2.1.2.2.1 (p1).toNatClampNeg)), (vp_updL x.2.2.1.2.2.2 0 (x.2.2.1.2.2.2 (p1).toNatClampNeg))), x.2.2.2.1, x.2.2.2.2.1, x.2.2.2.2.2.1, x.2.2.2.2.2.2.1, x.2.2.2.2.2.2.2.1, x.2.2.2.2.2.2.2.2.1, x.2.2.2.2.2.2.2.2.2.1, x.2.2.2.2.2.2.2.2.2.2.1, x.2.2.2.2.2.2.2.2.2.2.2.1, x.2.2.2.2.2.2.2.2.2.2.2.2.1, ((x.2.2.1.2.2.1 (p1).toNatClampNeg), (x.2.2.1.2.2.2 (p1).toNatClampNeg)), x.2.2.2.2.2.2.2.2.2.2.2.2.2.2)
   else
    if p1 = (1 : Int32) then
     (x.1, x.2.1, (x.2.2.1.1, (upd (upd x.2.2.1.2.1 1 (x.2.2.1.2.1 0)) 0 a0), (vp_updL (vp_updL x.2.2.1.2.2.1 1 (x.2.2.1.2.2.1 0)) 0 (x.2.2.1.2.2.1 (p1).toNatClampNeg)), (vp_updL (vp_updL x.2.2.1.2.2.2 1 (x.2.2.1.2.2.2 0)) 0 (x.2.2.1.2.2.2 (p1).toNatClampNeg))), x.2.2.2.1, x.2.2.2.2.1, x.2.2.2.2.2.1, x.2.2.2.2.2.2.1, x.2.2.2.2.2.2.2.1, x.2.2.2.2.2.2.2.2.1, x.2.2.2.2.2.2.2.2.2.1, x.2.2.2.2.2.2.2.2.2.2.1, x.2.2.2.2.2.2.2.2.2.2.2.1, x.2.2.2.2.2.2.2.2.2.2.2.2.1, ((x.2.2.1.2.2.1 (p1).toNatClampNeg), (x.2.2.1.2.2.2 (p1).toNatClampNeg)), x.2.2.2.2.2.2.2.2.2.2.2.2.2.2)
    else
     if p1 = (2 : Int32) then
      (x.1, x.2.1, (x.2.2.1.1, (upd (upd (upd x.2.2.1.2.1 2 (x.2.2.1.2.1 1)) 1 ((upd x.2.2.1.2.1 2 (x.2.2.1.2.1 1)) 0)) 0 a0), (vp_updL (vp_updL (vp_updL x.2.2.1.2.2.1 2 (x.2.2.1.2.2.1 1)) 1 ((vp_updL x.2.2.1.2.2.1 2 (x.2.2.1.2.2.1 1)) 0)) 0 (x.2.2.1.2.2.1 (p1).toNatClampNeg)), (vp_updL (vp_updL (vp_updL x.2.2.1.2.2.2 2 (x.2.2.1.2.2.2 1)) 1 ((vp_updL x.2.2.1.2.2.2 2 (x.2.2.1.2.2.2 1)) 0)) 0 (x.2.2.1.2.2.2 (p1).toNatClampNeg))), x.2.2.2.1, x.2.2.2.2.1, x.2.2.2.2.2.1, x.2.2.2.2.2.2.1, x.2.2.2.2.2.2.2.1, x.2.2.2.2.2.2.2.2.1, x.2.2.2.2.2.2.2.2.2.1, x.2.2.2.2.2.2.2.2.2.2.1, x.2.2.2.2.2.2.2.2.2.2.2.1, x.2.2.2.2.2.2.2.2.2.2.2.2.1, ((x.2.2.1.2.2.1 (p1).toNatClampNeg), (x.2.2.1.2.2.2 (p1).toNatClampNeg)), x.2.2.2.2.2.2.2.2.2.2.2.2.2.2)
     else
      (x.1, x.2.1, (x.2.2.1.1, (upd (upd (upd (upd x.2.2.1.2.1 3 (x.2.2.1.2.1 2)) 2 ((upd x.2.2.1.2.1 3 (x.2.2.1.2.1 2)) 1)) 1 ((upd (upd x.2.2.1.2.1 3 (x.2.2.1.2.1 2)) 2 ((upd x.2.2.1.2.1 3 (x.2.2.1.2.1 2)) 1)) 0)) 0 a0), (vp_updL (vp_updL (vp_updL (vp_updL x.2.2.1.2.2.1 3 (x.2.2.1.2.2.1 2)) 2 ((vp_updL x.2.2.1.2.2.1 3 (x.2.2.1.2.2.1 2)) 1)) 1 ((vp_updL (vp_updL x.2.2.1.2.2.1 3 (x.2.2.1.2.2.1 2)) 2 ((vp_updL x.2.2.1.2.2.1 3 (x.2.2.1.2.2.1 2)) 1)) 0)) 0 (x.2.2.1.2.2.1 (p1).toNatClampNeg)), (vp_updL (vp_updL (vp_updL (vp_updL x.2.2.1.2.2.2 3 (x.2.2.1.2.2.2 2)) 2 ((vp_updL x.2.2.1.2.2.2 3 (x.2.2.1.2.2.2 2)) 1)) 1 ((vp_updL (vp_updL x.2.2.1.2.2.2 3 (x.2.2.1.2.2.2 2)) 2 ((vp_updL x.2.2.1.2.2.2 3 (x.2.2.1.2.2.2 2)) 1)) 0)) 0 (x.2.2.1.2.2.2 (p1).toNatClampNeg))), x.2.2.2.1, x.2.2.2.2.1, x.2.2.2.2.2.1, x.2.2.2.2.2.2.1, x.2.2.2.2.2.2.2.1, x.2.2.2.2.2.2.2.2.1, x.2.2.2.2.2.2.2.2.2.1, x.2.2.2.2.2.2.2.2.2.2.1, x.2.2.2.2.2.2.2.2.2.2.2.1, x.2.2.2.2.2.2.2.2.2.2.2.2.1, ((x.2.2.1.2.2.1 (p1).toNatClampNeg), (x.2.2.1.2.2.2 (p1).toNatClampNeg)), x.2.2.2.2.2.2.2.2.2.2.2.2.2.2)
  else
   if ((x.2.1 (((2 : Int32) * a0)).toNatClampNeg) &&& (34359738368 : Int64)) = (0 : Int64) then
    (x.1, x.2.1, x.2.2.1, x.2.2.2.1, x.2.2.2.2.1, x.2.2.2.2.2.1, x.2.2.2.2.2.2.1, x.2.2.2.2.2.2.2.1, x.2.2.2.2.2.2.2.2.1, x.2.2.2.2.2.2.2.2.2.1, x.2.2.2.2.2.2.2.2.2.2.1, x.2.2.2.2.2.2.2.2.2.2.2.1, x.2.2.2.2.2.2.2.2.2.2.2.2.1, ((x.2.1 (((2 : Int32) * a0)).toNatClampNeg), (x.2.1 ((((2 : Int32) * a0) + (1 : Int32))).toNatClampNeg)), x.2.2.2.2.2.2.2.2.2.2.2.2.2.2)
   else
    if (4 : Int32) ≤ x.2.2.1.1 then
     (x.1, x.2.1, ((4 : Int32), (upd (upd (upd (upd x.2.2.1.2.1 3 (x.2.2.1.2.1 2)) 2 ((upd x.2.2.1.2.1 3 (x.2.2.1.2.1 2)) 1)) 1 ((upd (upd x.2.2.1.2.1 3 (x.2.2.1.2.1 2)) 2 ((upd x.2.2.1.2.1 3 (x.2.2.1.2.1 2)) 1)) 0)) 0 a0), (vp_updL (vp_updL (vp_updL (vp_updL x.2.2.1.2.2.1 3 (x.2.2.1.2.2.1 2)) 2 ((vp_updL x.2.2.1.2.2.1 3 (x.2.2.1.2.2.1 2)) 1)) 1 ((vp_updL (vp_updL x.2.2.1.2.2.1 3 (x.2.2.1.2.2.1 2)) 2 ((vp_updL x.2.2.1.2.2.1 3 (x.2.2.1.2.2.1 2)) 1)) 0)) 0 (x.2.1 (((2 : Int32) * a0)).toNatClampNeg)), (vp_updL (vp_updL (vp_updL (vp_updL x.2.2.1.2.2.2 3 (x.2.2.1.2.2.2 2)) 2 ((vp_updL x.2.2.1.2.2.2 3 (x.2.2.1.2.2.2 2)) 1)) 1 ((vp_updL (vp_updL x.2.2.1.2.2.2 3 (x.2.2.1.2.2.2 2)) 2 ((vp_updL x.2.2.1.2.2.2 3 (x.2.2.1.2.2.2 2)) 1)) 0)) 0 (x.2.1 ((((2 : Int32) * a0) + (1 : Int32))).toNatClampNeg))), x.2.2.2.1, x.2.2.2.2.1, x.2.2.2.2.2.1, x.2.2.2.2.2.2.1, x.2.2.2.2.2.2.2.1, x.2.2.2.2.2.2.2.2.1, x.2.2.2.2.2.2.2.2.2.1, x.2.2.2.2.2.2.2.2.2.2.1, x.2.2.2.2.2.2.2.2.2.2.2.1, x.2.2.2.2.2.2.2.2.2.2.2.2.1, ((x.2.1 (((2 : Int32) * a0)).toNatClampNeg), (x.2.1 ((((2 : Int32) * a0) + (1 : Int32))).toNatClampNeg)), x.2.2.2.2.2.2.2.2.2.2.2.2.2.2)
    else
     if ((x.2.2.1.1 + (1 : Int32)) - (1 : Int32)) = (0 : Int32) then
      (x.1, x.2.1, ((x.2.2.1.1 + (1 : Int32)), (upd x.2.2.1.2.1 0 a0), (vp_updL x.2.2.1.2.2.1 0 (x.2.1 (((2 : Int32) * a0)).toNatClampNeg)), (vp_updL x.2.2.1.2.2.2 0 (x.2.1 ((((2 : Int32) * a0) + (1 : Int32))).toNatClampNeg))), x.2.2.2.1, x.2.2.2.2.1, x.2.2.2.2.2.1, x.2.2.2.2.2.2.1, x.2.2.2.2.2.2.2.1, x.2.2.2.2.2.2.2.2.1, x.2.2.2.2.2.2.2.2.2.1, x.2.2.2.2.2.2.2.2.2.2.1, x.2.2.2.2.2.2.2.2.2.2.2.1, x.2.2.2.2.2.2.2.2.2.2.2.2.1, ((x.2.1 (((2 : Int32) * a0)).toNatClampNeg), (x.2.1 ((((2 : Int32) * a0) + (1 : Int32))).toNatClampNeg)), x.2.2.2.2.2.2.2.2.2.2.2.2.2.2)
     else
      if ((x.2.2.1.1 + (1 : Int32)) - (1 : Int32)) = (1 : Int32) then
       (x.1, x.2.1, ((x.2.2.1.1 + (1 : Int32)), (upd (upd x.2.2.1.2.1 1 (x.2.2.1.2.1 0)) 0 a0), (vp_updL (vp_updL x.2.2.1.2.2.1 1 (x.2.2.1.2.2.1 0)) 0 (x.2.1 (((2 : Int32) * a0)).toNatClampNeg)), (vp_updL (vp_updL x.2.2.1.2.2.2 1 (x.2.2.1.2.2.2 0)) 0 (x.2.1 ((((2 : Int32) * a0) + (1 : Int32))).toNatClampNeg))), x.2.2.2.1, x.2.2.2.2.1, x.2.2.2.2.2.1, x.2.2.2.2.2.2.1, x.2.2.2.2.2.2.2.1, x.2.2.2.2.2.2.2.2.1, x.2.2.2.2.2.2.2.2.2.1, x.2.2.2.2.2.2.2.2.2.2.1, x.2.2.2.2.2.2.2.2.2.2.2.1, x.2.2.2.2.2.2.2.2.2.2.2.2.1, ((x.2.1 (((2 : Int32) * a0)).toNatClampNeg), (x.2.1 ((((2 : Int32) * a0) + (1 : Int32))).toNatClampNeg)), x.2.2.2.2.2.2.2.2.2.2.2.2.2.2)
      else
       if ((x.2.2.1.1 + (1 : Int32)) - (1 : Int32)) = (2 : Int32) then
        (x.1, x.2.1, ((x.2.2.1.1 + (1 : Int32)), (upd (upd (upd x.2.2.1.2.1 2 (x.2.2.1.2.1 1)) 1 ((upd x.2.2.1.2.1 2 (x.2.2.1.2.1 1)) 0)) 0 a0), (vp_updL (vp_updL (vp_updL x.2.2.1.2.2.1 2 (x.2.2.1.2.2.1 1)) 1 ((vp_updL x.2.2.1.2.2.1 2 (x.2.2.1.2.2.1 1)) 0)) 0 (x.2.1 (((2 : Int32) * a0)).toNatClampNeg)), (vp_updL (vp_updL (vp_updL x.2.2.1.2.2.2 2 (x.2.2.1.2.2.2 1)) 1 ((vp_updL x.2.2.1.2.2.2 2 (x.2.2.1.2.2.2 1)) 0)) 0 (x.2.1 ((((2 : Int32) * a0) + (1 : Int32))).toNatClampNeg))), x.2.2.2.1, x.2.2.2.2.1, x.2.2.2.2.2.1, x.2.2.2.2.2.2.1, x.2.2.2.2.2.2.2.1, x.2.2.2.2.2.2.2.2.1, x.2.2.2.2.2.2.2.2.2.1, x.2.2.2.2.2.2.2.2.2.2.1, x.2.2.2.2.2.2.2.2.2.2.2.1, x.2.2.2.2.2.2.2.2.2.2.2.2.1, ((x.2.1 (((2 : Int32) * a0)).toNatClampNeg), (x.2.1 ((((2 : Int32) * a0) + (1 : Int32))).toNatClampNeg)), x.2.2.2.2.2.2.2.2.2.2.2.2.2.2)
       else
        (x.1, x.2.1, ((x.2.2.1.1 + (1 : Int32)), (upd (upd (upd (upd x.2.2.1.2.1 3 (x.2.2.1.2.1 2)) 2 ((upd x.2.2.1.2.1 3 (x.2.2.1.2.1 2)) 1)) 1 ((upd (upd x.2.2.1.2.1 3 (x.2.2.1.2.1 2)) 2 ((upd x.2.2.1.2.1 3 (x.2.2.1.2.1 2)) 1)) 0)) 0 a0), (vp_updL (vp_updL (vp_updL (vp_updL x.2.2.1.2.2.1 3 (x.2.2.1.2.2.1 2)) 2 ((vp_updL x.2.2.1.2.2.1 3 (x.2.2.1.2.2.1 2)) 1)) 1 ((vp_updL (vp_updL x.2.2.1.2.2.1 3 (x.2.2.1.2.2.1 2)) 2 ((vp_updL x.2.2.1.2.2.1 3 (x.2.2.1.2.2.1 2)) 1)) 0)) 0 (x.2.1 (((2 : Int32) * a0)).toNatClampNeg)), (vp_updL (vp_updL (vp_updL (vp_updL x.2.2.1.2.2.2 3 (x.2.2.1.2.2.2 2)) 2 ((vp_updL x.2.2.1.2.2.2 3 (x.2.2.1.2.2.2 2)) 1)) 1 ((vp_updL (vp_updL x.2.2.1.2.2.2 3 (x.2.2.1.2.2.2 2)) 2 ((vp_updL x.2.2.1.2.2.2 3 (x.2.2.1.2.2.2 2)) 1)) 0)) 0 (x.2.1 ((((2 : Int32) * a0) + (1 : Int32))).toNatClampNeg))), x.2.2.2.1, x.2.2.2.2.1, x.2.2.2.2.2.1, x.2.2.2.2.2.2.1, x.2.2.2.2.2.2.2.1, x.2.2.2.2.2.2.2.2.1, x.2.2.2.2.2.2.2.2.2.1, x.2.2.2.2.2.2.2.2.2.2.1, x.2.2.2.2.2.2.2.2.2.2.2.1, x.2.2.2.2.2.2.2.2.2.2.2.2.1, ((x.2.1 (((2 : Int32) * a0)).toNatClampNeg), (x.2.1 ((((2 : Int32) * a0) + (1 : Int32))).toNatClampNeg)), x.2.2.2.2.2.2.2.2.2.2.2.2.2.2)
abbrev ivX5_lookP (z : TM) : Prop := iM z
set_option maxRecDepth 100000 in
set_option maxHeartbeats 4000000 in
theorem ivX5_look (x : TM) (a0 : Int32) (hI : iM x) (g0 : i4 a0) : ivX5_lookP (fnX5_look x a0) := by
  unfold fnX5_look
  try dsimp only
  have j1 : ivX5_findDescriptorP (fnX5_findDescriptor x a0) := ivX5_findDescriptor x a0 hI
  generalize fnX5_findDescriptor x a0 = p1 at j1 ⊢
  refine iteI (fun h2 => ?_) (fun h2 => ?_)
  · refine iteI (fun h3 => ?_) (fun h3 => ?_)
    · exact ⟨hI.1, hI.2.1, hI.2.2.1, hI.2.2.2.1, hI.2.2.2.2.1, hI.2.2.2.2.2.1, hI.2.2.2.2.2.2.1, hI.2.2.2.2.2.2.2⟩
    · refine iteI (fun h4 => ?_) (fun h4 => ?_)
      · exact ⟨hI.1, hI.2.1, hI.2.2.1, hI.2.2.2.1, hI.2.2.2.2.1, hI.2.2.2.2.2.1, hI.2.2.2.2.2.2.1, hI.2.2.2.2.2.2.2⟩
      · refine iteI (fun h5 => ?_) (fun h5 => ?_)
        · exact ⟨hI.1, hI.2.1, hI.2.2.1, hI.2.2.2.1, hI.2.2.2.2.1, hI.2.2.2.2.2.1, hI.2.2.2.2.2.2.1, hI.2.2.2.2.2.2.2⟩
        · exact ⟨hI.1, hI.2.1, hI.2.2.1, hI.2.2.2.1, hI.2.2.2.2.1, hI.2.2.2.2.2.1, hI.2.2.2.2.2.2.1, hI.2.2.2.2.2.2.2⟩
  · refine iteI (fun h7 => ?_) (fun h7 => ?_)
    · exact ⟨hI.1, hI.2.1, hI.2.2.1, hI.2.2.2.1, hI.2.2.2.2.1, hI.2.2.2.2.2.1, hI.2.2.2.2.2.2.1, hI.2.2.2.2.2.2.2⟩
    · refine iteI (fun h8 => ?_) (fun h8 => ?_)
      · exact ⟨(show i5 (4 : Int32) from by decide), hI.2.1, hI.2.2.1, hI.2.2.2.1, hI.2.2.2.2.1, hI.2.2.2.2.2.1, hI.2.2.2.2.2.2.1, hI.2.2.2.2.2.2.2⟩
      · refine iteI (fun h9 => ?_) (fun h9 => ?_)
        · exact ⟨(addC hI.1 h8), hI.2.1, hI.2.2.1, hI.2.2.2.1, hI.2.2.2.2.1, hI.2.2.2.2.2.1, hI.2.2.2.2.2.2.1, hI.2.2.2.2.2.2.2⟩
        · refine iteI (fun h10 => ?_) (fun h10 => ?_)
          · exact ⟨(addC hI.1 h8), hI.2.1, hI.2.2.1, hI.2.2.2.1, hI.2.2.2.2.1, hI.2.2.2.2.2.1, hI.2.2.2.2.2.2.1, hI.2.2.2.2.2.2.2⟩
          · refine iteI (fun h11 => ?_) (fun h11 => ?_)
            · exact ⟨(addC hI.1 h8), hI.2.1, hI.2.2.1, hI.2.2.2.1, hI.2.2.2.2.1, hI.2.2.2.2.2.1, hI.2.2.2.2.2.2.1, hI.2.2.2.2.2.2.2⟩
            · exact ⟨(addC hI.1 h8), hI.2.1, hI.2.2.1, hI.2.2.2.1, hI.2.2.2.2.1, hI.2.2.2.2.2.1, hI.2.2.2.2.2.2.1, hI.2.2.2.2.2.2.2⟩
set_option maxRecDepth 100000 in
set_option maxHeartbeats 4000000 in
theorem okX5_look (l : Launch) (D : va_G) (cI cJ cP : ClassId) (ad : Nat → Nat) (sz : Nat) (x : TM) (a0 : Int32) (hI : iM x) (g0 : i4 a0) : Met l yX5_look (Cond.code yX5_look cX5_look 3 none :: gG) { frames := 1, cells := 0, slots := 0, locals := 22 } (va_Pc [.ref (ad 0), .int a0] (PRE D (tz cI cJ cP) sz (wM cI cJ ad x))) (va_Qv (fun (u : TM) => u = fnX5_look x a0) (AT D (tz cI cJ cP) (va_A (wM cI cJ ad x) sz) (fun (u : TM) => (wM cI cJ ad u))) (va_A (wM cI cJ ad x) sz)) 0 0 (va_A (wM cI cJ ad x) sz) := by
  refine mo (QA := fun A => va_Qv (fun (u : TM) => u = fnX5_look x a0) (AT D (tz cI cJ cP) A (fun (u : TM) => (wM cI cJ ad u))) A) (by decide) (Nat.le_of_ble_eq_true rfl) ?_
  intro p e s m below meth c A ls H hx hb hr hml hown hG hlocks hnm hA hS hP hK hD hl hN
  have hown : s.vm.findClass RX5 = some m.cls := hown
  have hl : lv_has ls 3 [(0, .ref (ad 0)), (1, .int a0)] := hl
  refine lv_aload_n hx hb dX5_look_0 rfl (lv_at hl 0 rfl) ?_
  refine lv_iload_n hx hb dX5_look_1 rfl (lv_at hl 1 rfl) ?_
  refine kFi (As := [.int (a0)]) (rest := []) hx hb hml hown hG hl (okX5_findDescriptor l D cI cJ cP ad H.size x a0 hI) (cV 1 hG kw255 kw256 kw257 kw258 kw238 hdX5_findDescriptor ⟨by decide, by decide⟩) 0 5 rfl rfl hK hP hD hS hA hN rfl rfl (Nat.le_of_ble_eq_true rfl) dX5_look_2 ⟨Nat.zero_le _, Nat.zero_le _⟩ (fun r1 _ q1 H locs hP hD hS => ?_)
  have j1 : ivX5_findDescriptorP r1 := by rw [q1]; exact ivX5_findDescriptor x a0 hI
  refine lv_istore_n (lv' := [(2, .int (r1)), (0, .ref (ad 0)), (1, .int (a0))]) hx hb dX5_look_5 rfl hl (by decide) rfl (fun ls hl => ?_)
  refine lv_aload_n hx hb dX5_look_6 rfl (lv_at hl 1 rfl) ?_
  refine lv_iload_n hx hb dX5_look_7 rfl (lv_at hl 0 rfl) ?_
  refine lv_if_ge (tgt := 22) hx hb dX5_look_8 (by decide) (fun h2 => ?_) (fun h2 => ?_)
  · refine lv_aload_n hx hb dX5_look_22 rfl (lv_at hl 1 rfl) ?_
    refine va_get (D := D) (ci := 5) (v := .ref (ad 4)) hx hb hG inX5 hown hK hP 0 rfl rfl 6 (by decide) (hG _ kw259) (fun _ h9 => h9) rfl dX5_look_23 ?_
    refine lv_iload_n hx hb dX5_look_26 rfl (lv_at hl 0 rfl) ?_
    refine gl (D := D) (j := (r1).toNatClampNeg) (f := x.2.2.1.2.2.1) hx hb hK hP 4 1 rfl rfl (in2_5 (plN j1 (Int32.not_lt.mpr h2))) rfl dX5_look_27 ?_
    refine pu (D := D) (ci := 5) (v := .long ((x.2.2.1.2.2.1 (r1).toNatClampNeg))) (ty := .long) (W' := (wM cI cJ ad (x.1, x.2.1, x.2.2.1, x.2.2.2.1, x.2.2.2.2.1, x.2.2.2.2.2.1, x.2.2.2.2.2.2.1, x.2.2.2.2.2.2.2.1, x.2.2.2.2.2.2.2.2.1, x.2.2.2.2.2.2.2.2.2.1, x.2.2.2.2.2.2.2.2.2.2.1, x.2.2.2.2.2.2.2.2.2.2.2.1, x.2.2.2.2.2.2.2.2.2.2.2.2.1, ((x.2.2.1.2.2.1 (r1).toNatClampNeg), x.2.2.2.2.2.2.2.2.2.2.2.2.2.1.2), x.2.2.2.2.2.2.2.2.2.2.2.2.2.2))) hx hb hG inX5 tyX5 tyokX5 nmX5 hown hK hP hD hS 0 rfl rfl 34 (by decide) (hG _ kw260) (fun _ h9 => h9) rfl (by decide +kernel) rfl rfl (Nat.le_of_ble_eq_true rfl) dX5_look_28 rfl (fun H locs hP hD hS => ?_)
    refine lv_aload_n hx hb dX5_look_31 rfl (lv_at hl 1 rfl) ?_
    refine lv_iload_n hx hb dX5_look_32 rfl (lv_at hl 0 rfl) ?_
    refine lv_if_ge (tgt := 49) hx hb dX5_look_33 (by decide) (fun _ => ?_) (fun h9 => absurd h2 h9)
    refine lv_aload_n hx hb dX5_look_49 rfl (lv_at hl 1 rfl) ?_
    refine va_get (D := D) (ci := 5) (v := .ref (ad 5)) hx hb hG inX5 hown hK hP 0 rfl rfl 7 (by decide) (hG _ kw261) (fun _ h9 => h9) rfl dX5_look_50 ?_
    refine lv_iload_n hx hb dX5_look_53 rfl (lv_at hl 0 rfl) ?_
    refine gl (D := D) (j := (r1).toNatClampNeg) (f := x.2.2.1.2.2.2) hx hb hK hP 5 1 rfl rfl (in2_5 (plN j1 (Int32.not_lt.mpr h2))) rfl dX5_look_54 ?_
    refine pu (D := D) (ci := 5) (v := .long ((x.2.2.1.2.2.2 (r1).toNatClampNeg))) (ty := .long) (W' := (wM cI cJ ad (x.1, x.2.1, x.2.2.1, x.2.2.2.1, x.2.2.2.2.1, x.2.2.2.2.2.1, x.2.2.2.2.2.2.1, x.2.2.2.2.2.2.2.1, x.2.2.2.2.2.2.2.2.1, x.2.2.2.2.2.2.2.2.2.1, x.2.2.2.2.2.2.2.2.2.2.1, x.2.2.2.2.2.2.2.2.2.2.2.1, x.2.2.2.2.2.2.2.2.2.2.2.2.1, ((x.2.2.1.2.2.1 (r1).toNatClampNeg), (x.2.2.1.2.2.2 (r1).toNatClampNeg)), x.2.2.2.2.2.2.2.2.2.2.2.2.2.2))) hx hb hG inX5 tyX5 tyokX5 nmX5 hown hK hP hD hS 0 rfl rfl 35 (by decide) (hG _ kw262) (fun _ h9 => h9) rfl (by decide +kernel) rfl rfl (Nat.le_of_ble_eq_true rfl) dX5_look_55 rfl (fun H locs hP hD hS => ?_)
    refine lv_iload_n hx hb dX5_look_58 rfl (lv_at hl 0 rfl) ?_
    refine lv_if_ge (tgt := 76) hx hb dX5_look_59 (by decide) (fun _ => ?_) (fun h9 => absurd h2 h9)
    refine lv_iload_n hx hb dX5_look_76 rfl (lv_at hl 0 rfl) ?_
    refine lv_if_ge (tgt := 109) hx hb dX5_look_77 (by decide) (fun _ => ?_) (fun h9 => absurd h2 h9)
    by_cases h3 : r1 = (0 : Int32)
    · have hl : lv_has ls 3 [(2, .int ((0 : Int32))), (0, .ref (ad 0)), (1, .int (a0))] := lvc h3 (lv_sub hl [0, 1, 2] rfl)
      refine lv_iload_n hx hb dX5_look_109 rfl (lv_at hl 0 rfl) ?_
      refine lv_if_le (tgt := 161) hx hb dX5_look_110 (by decide) (fun _ => ?_) (fun h9 => absurd (by decide) h9)
      refine lv_aload_n hx hb dX5_look_161 rfl (lv_at hl 1 rfl) ?_
      refine va_get (D := D) (ci := 5) (v := .ref (ad 2)) hx hb hG inX5 hown hK hP 0 rfl rfl 4 (by decide) (hG _ kw252) (fun _ h9 => h9) rfl dX5_look_162 ?_
      refine lv_iconst (v := 0) hx hb dX5_look_165 (by decide) ?_
      refine lv_iload_n hx hb dX5_look_166 rfl (lv_at hl 2 rfl) ?_
      refine si (D := D) (j := 0) (f := x.2.2.1.2.1) (x := a0) (W' := (wM cI cJ ad (x.1, x.2.1, (x.2.2.1.1, (upd x.2.2.1.2.1 0 a0), x.2.2.1.2.2.1, x.2.2.1.2.2.2), x.2.2.2.1, x.2.2.2.2.1, x.2.2.2.2.2.1, x.2.2.2.2.2.2.1, x.2.2.2.2.2.2.2.1, x.2.2.2.2.2.2.2.2.1, x.2.2.2.2.2.2.2.2.2.1, x.2.2.2.2.2.2.2.2.2.2.1, x.2.2.2.2.2.2.2.2.2.2.2.1, x.2.2.2.2.2.2.2.2.2.2.2.2.1, ((x.2.2.1.2.2.1 (r1).toNatClampNeg), (x.2.2.1.2.2.2 (r1).toNatClampNeg)), x.2.2.2.2.2.2.2.2.2.2.2.2.2.2))) hx hb hK hP hD hS 2 0 rfl rfl (inL (by decide)) (by decide) dX5_look_167 rfl (fun H locs hP hD hS => ?_)
      refine lv_aload_n hx hb dX5_look_168 rfl (lv_at hl 1 rfl) ?_
      refine va_get (D := D) (ci := 5) (v := .ref (ad 4)) hx hb hG inX5 hown hK hP 0 rfl rfl 6 (by decide) (hG _ kw259) (fun _ h9 => h9) rfl dX5_look_169 ?_
      refine lv_iconst (v := 0) hx hb dX5_look_172 (by decide) ?_
      refine lv_aload_n hx hb dX5_look_173 rfl (lv_at hl 1 rfl) ?_
      refine va_get (D := D) (ci := 5) (v := .long ((x.2.2.1.2.2.1 (r1).toNatClampNeg))) hx hb hG inX5 hown hK hP 0 rfl rfl 34 (by decide) (hG _ kw260) (fun _ h9 => h9) rfl dX5_look_174 ?_
      refine sl (D := D) (j := 0) (f := x.2.2.1.2.2.1) (x := (x.2.2.1.2.2.1 (r1).toNatClampNeg)) (W' := (wM cI cJ ad (x.1, x.2.1, (x.2.2.1.1, (upd x.2.2.1.2.1 0 a0), (vp_updL x.2.2.1.2.2.1 0 (x.2.2.1.2.2.1 (r1).toNatClampNeg)), x.2.2.1.2.2.2), x.2.2.2.1, x.2.2.2.2.1, x.2.2.2.2.2.1, x.2.2.2.2.2.2.1, x.2.2.2.2.2.2.2.1, x.2.2.2.2.2.2.2.2.1, x.2.2.2.2.2.2.2.2.2.1, x.2.2.2.2.2.2.2.2.2.2.1, x.2.2.2.2.2.2.2.2.2.2.2.1, x.2.2.2.2.2.2.2.2.2.2.2.2.1, ((x.2.2.1.2.2.1 (r1).toNatClampNeg), (x.2.2.1.2.2.2 (r1).toNatClampNeg)), x.2.2.2.2.2.2.2.2.2.2.2.2.2.2))) hx hb hK hP hD hS 4 1 rfl rfl (inL (by decide)) (by decide) dX5_look_177 rfl (fun H locs hP hD hS => ?_)
      refine lv_aload_n hx hb dX5_look_178 rfl (lv_at hl 1 rfl) ?_
      refine va_get (D := D) (ci := 5) (v := .ref (ad 5)) hx hb hG inX5 hown hK hP 0 rfl rfl 7 (by decide) (hG _ kw261) (fun _ h9 => h9) rfl dX5_look_179 ?_
      refine lv_iconst (v := 0) hx hb dX5_look_182 (by decide) ?_
      refine lv_aload_n hx hb dX5_look_183 rfl (lv_at hl 1 rfl) ?_
      refine va_get (D := D) (ci := 5) (v := .long ((x.2.2.1.2.2.2 (r1).toNatClampNeg))) hx hb hG inX5 hown hK hP 0 rfl rfl 35 (by decide) (hG _ kw262) (fun _ h9 => h9) rfl dX5_look_184 ?_
      refine sl (D := D) (j := 0) (f := x.2.2.1.2.2.2) (x := (x.2.2.1.2.2.2 (r1).toNatClampNeg)) (W' := (wM cI cJ ad (x.1, x.2.1, (x.2.2.1.1, (upd x.2.2.1.2.1 0 a0), (vp_updL x.2.2.1.2.2.1 0 (x.2.2.1.2.2.1 (r1).toNatClampNeg)), (vp_updL x.2.2.1.2.2.2 0 (x.2.2.1.2.2.2 (r1).toNatClampNeg))), x.2.2.2.1, x.2.2.2.2.1, x.2.2.2.2.2.1, x.2.2.2.2.2.2.1, x.2.2.2.2.2.2.2.1, x.2.2.2.2.2.2.2.2.1, x.2.2.2.2.2.2.2.2.2.1, x.2.2.2.2.2.2.2.2.2.2.1, x.2.2.2.2.2.2.2.2.2.2.2.1, x.2.2.2.2.2.2.2.2.2.2.2.2.1, ((x.2.2.1.2.2.1 (r1).toNatClampNeg), (x.2.2.1.2.2.2 (r1).toNatClampNeg)), x.2.2.2.2.2.2.2.2.2.2.2.2.2.2))) hx hb hK hP hD hS 5 1 rfl rfl (inL (by decide)) (by decide) dX5_look_187 rfl (fun H locs hP hD hS => ?_)
      exact retv (u := (x.1, x.2.1, (x.2.2.1.1, (upd x.2.2.1.2.1 0 a0), (vp_updL x.2.2.1.2.2.1 0 (x.2.2.1.2.2.1 (r1).toNatClampNeg)), (vp_updL x.2.2.1.2.2.2 0 (x.2.2.1.2.2.2 (r1).toNatClampNeg))), x.2.2.2.1, x.2.2.2.2.1, x.2.2.2.2.2.1, x.2.2.2.2.2.2.1, x.2.2.2.2.2.2.2.1, x.2.2.2.2.2.2.2.2.1, x.2.2.2.2.2.2.2.2.2.1, x.2.2.2.2.2.2.2.2.2.2.1, x.2.2.2.2.2.2.2.2.2.2.2.1, x.2.2.2.2.2.2.2.2.2.2.2.2.1, ((x.2.2.1.2.2.1 (r1).toNatClampNeg), (x.2.2.1.2.2.2 (r1).toNatClampNeg)), x.2.2.2.2.2.2.2.2.2.2.2.2.2.2)) hx hb hr hlocks hK hP hD hS dX5_look_188 (by unfold fnX5_look; rw [← q1]; (try dsimp only); rw [if_pos h2]; rw [if_pos h3]; (try exact rfl))
    by_cases h4 : r1 = (1 : Int32)
    · have hl : lv_has ls 3 [(2, .int ((1 : Int32))), (0, .ref (ad 0)), (1, .int (a0))] := lvc h4 (lv_sub hl [0, 1, 2] rfl)
      refine lv_iload_n hx hb dX5_look_109 rfl (lv_at hl 0 rfl) ?_
      refine lv_if_le (tgt := 161) hx hb dX5_look_110 (by decide) (fun h9 => absurd h9 (by decide)) (fun _ => ?_)
      refine lv_aload_n hx hb dX5_look_113 rfl (lv_at hl 1 rfl) ?_
      refine va_get (D := D) (ci := 5) (v := .ref (ad 2)) hx hb hG inX5 hown hK hP 0 rfl rfl 4 (by decide) (hG _ kw252) (fun _ h9 => h9) rfl dX5_look_114 ?_
      refine lv_iload_n hx hb dX5_look_117 rfl (lv_at hl 0 rfl) ?_
      refine lv_aload_n hx hb dX5_look_118 rfl (lv_at hl 1 rfl) ?_
      refine va_get (D := D) (ci := 5) (v := .ref (ad 2)) hx hb hG inX5 hown hK hP 0 rfl rfl 4 (by decide) (hG _ kw252) (fun _ h9 => h9) rfl dX5_look_119 ?_
      refine lv_iload_n hx hb dX5_look_122 rfl (lv_at hl 0 rfl) ?_
      refine lv_iconst (v := 1) hx hb dX5_look_123 (by decide) ?_
      refine lv_isub hx hb dX5_look_124 ?_
      refine tI (y := 0) (by decide) ?_
      refine gi (D := D) (j := 0) (f := x.2.2.1.2.1) hx hb hK hP 2 0 rfl rfl (inL (by decide)) (by decide) dX5_look_125 ?_
      refine si (D := D) (j := 1) (f := x.2.2.1.2.1) (x := (x.2.2.1.2.1 0)) (W' := (wM cI cJ ad (x.1, x.2.1, (x.2.2.1.1, (upd x.2.2.1.2.1 1 (x.2.2.1.2.1 0)), x.2.2.1.2.2.1, x.2.2.1.2.2.2), x.2.2.2.1, x.2.2.2.2.1, x.2.2.2.2.2.1, x.2.2.2.2.2.2.1, x.2.2.2.2.2.2.2.1, x.2.2.2.2.2.2.2.2.1, x.2.2.2.2.2.2.2.2.2.1, x.2.2.2.2.2.2.2.2.2.2.1, x.2.2.2.2.2.2.2.2.2.2.2.1, x.2.2.2.2.2.2.2.2.2.2.2.2.1, ((x.2.2.1.2.2.1 (r1).toNatClampNeg), (x.2.2.1.2.2.2 (r1).toNatClampNeg)), x.2.2.2.2.2.2.2.2.2.2.2.2.2.2))) hx hb hK hP hD hS 2 0 rfl rfl (inL (by decide)) (by decide) dX5_look_126 rfl (fun H locs hP hD hS => ?_)
      refine lv_aload_n hx hb dX5_look_127 rfl (lv_at hl 1 rfl) ?_
      refine va_get (D := D) (ci := 5) (v := .ref (ad 4)) hx hb hG inX5 hown hK hP 0 rfl rfl 6 (by decide) (hG _ kw259) (fun _ h9 => h9) rfl dX5_look_128 ?_
      refine lv_iload_n hx hb dX5_look_131 rfl (lv_at hl 0 rfl) ?_
      refine lv_aload_n hx hb dX5_look_132 rfl (lv_at hl 1 rfl) ?_
      refine va_get (D := D) (ci := 5) (v := .ref (ad 4)) hx hb hG inX5 hown hK hP 0 rfl rfl 6 (by decide) (hG _ kw259) (fun _ h9 => h9) rfl dX5_look_133 ?_
      refine lv_iload_n hx hb dX5_look_136 rfl (lv_at hl 0 rfl) ?_
      refine lv_iconst (v := 1) hx hb dX5_look_137 (by decide) ?_
      refine lv_isub hx hb dX5_look_138 ?_
      refine tI (y := 0) (by decide) ?_
      refine gl (D := D) (j := 0) (f := x.2.2.1.2.2.1) hx hb hK hP 4 1 rfl rfl (inL (by decide)) (by decide) dX5_look_139 ?_
      refine sl (D := D) (j := 1) (f := x.2.2.1.2.2.1) (x := (x.2.2.1.2.2.1 0)) (W' := (wM cI cJ ad (x.1, x.2.1, (x.2.2.1.1, (upd x.2.2.1.2.1 1 (x.2.2.1.2.1 0)), (vp_updL x.2.2.1.2.2.1 1 (x.2.2.1.2.2.1 0)), x.2.2.1.2.2.2), x.2.2.2.1, x.2.2.2.2.1, x.2.2.2.2.2.1, x.2.2.2.2.2.2.1, x.2.2.2.2.2.2.2.1, x.2.2.2.2.2.2.2.2.1, x.2.2.2.2.2.2.2.2.2.1, x.2.2.2.2.2.2.2.2.2.2.1, x.2.2.2.2.2.2.2.2.2.2.2.1, x.2.2.2.2.2.2.2.2.2.2.2.2.1, ((x.2.2.1.2.2.1 (r1).toNatClampNeg), (x.2.2.1.2.2.2 (r1).toNatClampNeg)), x.2.2.2.2.2.2.2.2.2.2.2.2.2.2))) hx hb hK hP hD hS 4 1 rfl rfl (inL (by decide)) (by decide) dX5_look_140 rfl (fun H locs hP hD hS => ?_)
      refine lv_aload_n hx hb dX5_look_141 rfl (lv_at hl 1 rfl) ?_
      refine va_get (D := D) (ci := 5) (v := .ref (ad 5)) hx hb hG inX5 hown hK hP 0 rfl rfl 7 (by decide) (hG _ kw261) (fun _ h9 => h9) rfl dX5_look_142 ?_
      refine lv_iload_n hx hb dX5_look_145 rfl (lv_at hl 0 rfl) ?_
      refine lv_aload_n hx hb dX5_look_146 rfl (lv_at hl 1 rfl) ?_
      refine va_get (D := D) (ci := 5) (v := .ref (ad 5)) hx hb hG inX5 hown hK hP 0 rfl rfl 7 (by decide) (hG _ kw261) (fun _ h9 => h9) rfl dX5_look_147 ?_
      refine lv_iload_n hx hb dX5_look_150 rfl (lv_at hl 0 rfl) ?_
      refine lv_iconst (v := 1) hx hb dX5_look_151 (by decide) ?_
      refine lv_isub hx hb dX5_look_152 ?_
      refine tI (y := 0) (by decide) ?_
      refine gl (D := D) (j := 0) (f := x.2.2.1.2.2.2) hx hb hK hP 5 1 rfl rfl (inL (by decide)) (by decide) dX5_look_153 ?_
      refine sl (D := D) (j := 1) (f := x.2.2.1.2.2.2) (x := (x.2.2.1.2.2.2 0)) (W' := (wM cI cJ ad (x.1, x.2.1, (x.2.2.1.1, (upd x.2.2.1.2.1 1 (x.2.2.1.2.1 0)), (vp_updL x.2.2.1.2.2.1 1 (x.2.2.1.2.2.1 0)), (vp_updL x.2.2.1.2.2.2 1 (x.2.2.1.2.2.2 0))), x.2.2.2.1, x.2.2.2.2.1, x.2.2.2.2.2.1, x.2.2.2.2.2.2.1, x.2.2.2.2.2.2.2.1, x.2.2.2.2.2.2.2.2.1, x.2.2.2.2.2.2.2.2.2.1, x.2.2.2.2.2.2.2.2.2.2.1, x.2.2.2.2.2.2.2.2.2.2.2.1, x.2.2.2.2.2.2.2.2.2.2.2.2.1, ((x.2.2.1.2.2.1 (r1).toNatClampNeg), (x.2.2.1.2.2.2 (r1).toNatClampNeg)), x.2.2.2.2.2.2.2.2.2.2.2.2.2.2))) hx hb hK hP hD hS 5 1 rfl rfl (inL (by decide)) (by decide) dX5_look_154 rfl (fun H locs hP hD hS => ?_)
      refine lv_iinc (k := 0) (v := (0 : Int32)) (lv' := [(2, .int ((0 : Int32))), (0, .ref (ad 0)), (1, .int (a0))]) hx hb dX5_look_155 hl rfl (by decide) (by decide) rfl (fun ls hl => ?_)
      refine lv_goto (tgt := 109) hx hb dX5_look_158 (by decide) ?_
      refine lv_iload_n hx hb dX5_look_109 rfl (lv_at hl 0 rfl) ?_
      refine lv_if_le (tgt := 161) hx hb dX5_look_110 (by decide) (fun _ => ?_) (fun h9 => absurd (by decide) h9)
      refine lv_aload_n hx hb dX5_look_161 rfl (lv_at hl 1 rfl) ?_
      refine va_get (D := D) (ci := 5) (v := .ref (ad 2)) hx hb hG inX5 hown hK hP 0 rfl rfl 4 (by decide) (hG _ kw252) (fun _ h9 => h9) rfl dX5_look_162 ?_
      refine lv_iconst (v := 0) hx hb dX5_look_165 (by decide) ?_
      refine lv_iload_n hx hb dX5_look_166 rfl (lv_at hl 2 rfl) ?_
      refine si (D := D) (j := 0) (f := (upd x.2.2.1.2.1 1 (x.2.2.1.2.1 0))) (x := a0) (W' := (wM cI cJ ad (x.1, x.2.1, (x.2.2.1.1, (upd (upd x.2.2.1.2.1 1 (x.2.2.1.2.1 0)) 0 a0), (vp_updL x.2.2.1.2.2.1 1 (x.2.2.1.2.2.1 0)), (vp_updL x.2.2.1.2.2.2 1 (x.2.2.1.2.2.2 0))), x.2.2.2.1, x.2.2.2.2.1, x.2.2.2.2.2.1, x.2.2.2.2.2.2.1, x.2.2.2.2.2.2.2.1, x.2.2.2.2.2.2.2.2.1, x.2.2.2.2.2.2.2.2.2.1, x.2.2.2.2.2.2.2.2.2.2.1, x.2.2.2.2.2.2.2.2.2.2.2.1, x.2.2.2.2.2.2.2.2.2.2.2.2.1, ((x.2.2.1.2.2.1 (r1).toNatClampNeg), (x.2.2.1.2.2.2 (r1).toNatClampNeg)), x.2.2.2.2.2.2.2.2.2.2.2.2.2.2))) hx hb hK hP hD hS 2 0 rfl rfl (inL (by decide)) (by decide) dX5_look_167 rfl (fun H locs hP hD hS => ?_)
      refine lv_aload_n hx hb dX5_look_168 rfl (lv_at hl 1 rfl) ?_
      refine va_get (D := D) (ci := 5) (v := .ref (ad 4)) hx hb hG inX5 hown hK hP 0 rfl rfl 6 (by decide) (hG _ kw259) (fun _ h9 => h9) rfl dX5_look_169 ?_
      refine lv_iconst (v := 0) hx hb dX5_look_172 (by decide) ?_
      refine lv_aload_n hx hb dX5_look_173 rfl (lv_at hl 1 rfl) ?_
      refine va_get (D := D) (ci := 5) (v := .long ((x.2.2.1.2.2.1 (r1).toNatClampNeg))) hx hb hG inX5 hown hK hP 0 rfl rfl 34 (by decide) (hG _ kw260) (fun _ h9 => h9) rfl dX5_look_174 ?_
      refine sl (D := D) (j := 0) (f := (vp_updL x.2.2.1.2.2.1 1 (x.2.2.1.2.2.1 0))) (x := (x.2.2.1.2.2.1 (r1).toNatClampNeg)) (W' := (wM cI cJ ad (x.1, x.2.1, (x.2.2.1.1, (upd (upd x.2.2.1.2.1 1 (x.2.2.1.2.1 0)) 0 a0), (vp_updL (vp_updL x.2.2.1.2.2.1 1 (x.2.2.1.2.2.1 0)) 0 (x.2.2.1.2.2.1 (r1).toNatClampNeg)), (vp_updL x.2.2.1.2.2.2 1 (x.2.2.1.2.2.2 0))), x.2.2.2.1, x.2.2.2.2.1, x.2.2.2.2.2.1, x.2.2.2.2.2.2.1, x.2.2.2.2.2.2.2.1, x.2.2.2.2.2.2.2.2.1, x.2.2.2.2.2.2.2.2.2.1, x.2.2.2.2.2.2.2.2.2.2.1, x.2.2.2.2.2.2.2.2.2.2.2.1, x.2.2.2.2.2.2.2.2.2.2.2.2.1, ((x.2.2.1.2.2.1 (r1).toNatClampNeg), (x.2.2.1.2.2.2 (r1).toNatClampNeg)), x.2.2.2.2.2.2.2.2.2.2.2.2.2.2))) hx hb hK hP hD hS 4 1 rfl rfl (inL (by decide)) (by decide) dX5_look_177 rfl (fun H locs hP hD hS => ?_)
      refine lv_aload_n hx hb dX5_look_178 rfl (lv_at hl 1 rfl) ?_
      refine va_get (D := D) (ci := 5) (v := .ref (ad 5)) hx hb hG inX5 hown hK hP 0 rfl rfl 7 (by decide) (hG _ kw261) (fun _ h9 => h9) rfl dX5_look_179 ?_
      refine lv_iconst (v := 0) hx hb dX5_look_182 (by decide) ?_
      refine lv_aload_n hx hb dX5_look_183 rfl (lv_at hl 1 rfl) ?_
      refine va_get (D := D) (ci := 5) (v := .long ((x.2.2.1.2.2.2 (r1).toNatClampNeg))) hx hb hG inX5 hown hK hP 0 rfl rfl 35 (by decide) (hG _ kw262) (fun _ h9 => h9) rfl dX5_look_184 ?_
      refine sl (D := D) (j := 0) (f := (vp_updL x.2.2.1.2.2.2 1 (x.2.2.1.2.2.2 0))) (x := (x.2.2.1.2.2.2 (r1).toNatClampNeg)) (W' := (wM cI cJ ad (x.1, x.2.1, (x.2.2.1.1, (upd (upd x.2.2.1.2.1 1 (x.2.2.1.2.1 0)) 0 a0), (vp_updL (vp_updL x.2.2.1.2.2.1 1 (x.2.2.1.2.2.1 0)) 0 (x.2.2.1.2.2.1 (r1).toNatClampNeg)), (vp_updL (vp_updL x.2.2.1.2.2.2 1 (x.2.2.1.2.2.2 0)) 0 (x.2.2.1.2.2.2 (r1).toNatClampNeg))), x.2.2.2.1, x.2.2.2.2.1, x.2.2.2.2.2.1, x.2.2.2.2.2.2.1, x.2.2.2.2.2.2.2.1, x.2.2.2.2.2.2.2.2.1, x.2.2.2.2.2.2.2.2.2.1, x.2.2.2.2.2.2.2.2.2.2.1, x.2.2.2.2.2.2.2.2.2.2.2.1, x.2.2.2.2.2.2.2.2.2.2.2.2.1, ((x.2.2.1.2.2.1 (r1).toNatClampNeg), (x.2.2.1.2.2.2 (r1).toNatClampNeg)), x.2.2.2.2.2.2.2.2.2.2.2.2.2.2))) hx hb hK hP hD hS 5 1 rfl rfl (inL (by decide)) (by decide) dX5_look_187 rfl (fun H locs hP hD hS => ?_)
      exact retv (u := (x.1, x.2.1, (x.2.2.1.1, (upd (upd x.2.2.1.2.1 1 (x.2.2.1.2.1 0)) 0 a0), (vp_updL (vp_updL x.2.2.1.2.2.1 1 (x.2.2.1.2.2.1 0)) 0 (x.2.2.1.2.2.1 (r1).toNatClampNeg)), (vp_updL (vp_updL x.2.2.1.2.2.2 1 (x.2.2.1.2.2.2 0)) 0 (x.2.2.1.2.2.2 (r1).toNatClampNeg))), x.2.2.2.1, x.2.2.2.2.1, x.2.2.2.2.2.1, x.2.2.2.2.2.2.1, x.2.2.2.2.2.2.2.1, x.2.2.2.2.2.2.2.2.1, x.2.2.2.2.2.2.2.2.2.1, x.2.2.2.2.2.2.2.2.2.2.1, x.2.2.2.2.2.2.2.2.2.2.2.1, x.2.2.2.2.2.2.2.2.2.2.2.2.1, ((x.2.2.1.2.2.1 (r1).toNatClampNeg), (x.2.2.1.2.2.2 (r1).toNatClampNeg)), x.2.2.2.2.2.2.2.2.2.2.2.2.2.2)) hx hb hr hlocks hK hP hD hS dX5_look_188 (by unfold fnX5_look; rw [← q1]; (try dsimp only); rw [if_pos h2]; rw [if_neg h3]; rw [if_pos h4]; (try exact rfl))
    by_cases h5 : r1 = (2 : Int32)
    · have hl : lv_has ls 3 [(2, .int ((2 : Int32))), (0, .ref (ad 0)), (1, .int (a0))] := lvc h5 (lv_sub hl [0, 1, 2] rfl)
      refine lv_iload_n hx hb dX5_look_109 rfl (lv_at hl 0 rfl) ?_
      refine lv_if_le (tgt := 161) hx hb dX5_look_110 (by decide) (fun h9 => absurd h9 (by decide)) (fun _ => ?_)
      refine lv_aload_n hx hb dX5_look_113 rfl (lv_at hl 1 rfl) ?_
      refine va_get (D := D) (ci := 5) (v := .ref (ad 2)) hx hb hG inX5 hown hK hP 0 rfl rfl 4 (by decide) (hG _ kw252) (fun _ h9 => h9) rfl dX5_look_114 ?_
      refine lv_iload_n hx hb dX5_look_117 rfl (lv_at hl 0 rfl) ?_
      refine lv_aload_n hx hb dX5_look_118 rfl (lv_at hl 1 rfl) ?_
      refine va_get (D := D) (ci := 5) (v := .ref (ad 2)) hx hb hG inX5 hown hK hP 0 rfl rfl 4 (by decide) (hG _ kw252) (fun _ h9 => h9) rfl dX5_look_119 ?_
      refine lv_iload_n hx hb dX5_look_122 rfl (lv_at hl 0 rfl) ?_
      refine lv_iconst (v := 1) hx hb dX5_look_123 (by decide) ?_
      refine lv_isub hx hb dX5_look_124 ?_
      refine tI (y := 1) (by decide) ?_
      refine gi (D := D) (j := 1) (f := x.2.2.1.2.1) hx hb hK hP 2 0 rfl rfl (inL (by decide)) (by decide) dX5_look_125 ?_
      refine si (D := D) (j := 2) (f := x.2.2.1.2.1) (x := (x.2.2.1.2.1 1)) (W' := (wM cI cJ ad (x.1, x.2.1, (x.2.2.1.1, (upd x.2.2.1.2.1 2 (x.2.2.1.2.1 1)), x.2.2.1.2.2.1, x.2.2.1.2.2.2), x.2.2.2.1, x.2.2.2.2.1, x.2.2.2.2.2.1, x.2.2.2.2.2.2.1, x.2.2.2.2.2.2.2.1, x.2.2.2.2.2.2.2.2.1, x.2.2.2.2.2.2.2.2.2.1, x.2.2.2.2.2.2.2.2.2.2.1, x.2.2.2.2.2.2.2.2.2.2.2.1, x.2.2.2.2.2.2.2.2.2.2.2.2.1, ((x.2.2.1.2.2.1 (r1).toNatClampNeg), (x.2.2.1.2.2.2 (r1).toNatClampNeg)), x.2.2.2.2.2.2.2.2.2.2.2.2.2.2))) hx hb hK hP hD hS 2 0 rfl rfl (inL (by decide)) (by decide) dX5_look_126 rfl (fun H locs hP hD hS => ?_)
      refine lv_aload_n hx hb dX5_look_127 rfl (lv_at hl 1 rfl) ?_
      refine va_get (D := D) (ci := 5) (v := .ref (ad 4)) hx hb hG inX5 hown hK hP 0 rfl rfl 6 (by decide) (hG _ kw259) (fun _ h9 => h9) rfl dX5_look_128 ?_
      refine lv_iload_n hx hb dX5_look_131 rfl (lv_at hl 0 rfl) ?_
      refine lv_aload_n hx hb dX5_look_132 rfl (lv_at hl 1 rfl) ?_
      refine va_get (D := D) (ci := 5) (v := .ref (ad 4)) hx hb hG inX5 hown hK hP 0 rfl rfl 6 (by decide) (hG _ kw259) (fun _ h9 => h9) rfl dX5_look_133 ?_
      refine lv_iload_n hx hb dX5_look_136 rfl (lv_at hl 0 rfl) ?_
      refine lv_iconst (v := 1) hx hb dX5_look_137 (by decide) ?_
      refine lv_isub hx hb dX5_look_138 ?_
      refine tI (y := 1) (by decide) ?_
      refine gl (D := D) (j := 1) (f := x.2.2.1.2.2.1) hx hb hK hP 4 1 rfl rfl (inL (by decide)) (by decide) dX5_look_139 ?_
      refine sl (D := D) (j := 2) (f := x.2.2.1.2.2.1) (x := (x.2.2.1.2.2.1 1)) (W' := (wM cI cJ ad (x.1, x.2.1, (x.2.2.1.1, (upd x.2.2.1.2.1 2 (x.2.2.1.2.1 1)), (vp_updL x.2.2.1.2.2.1 2 (x.2.2.1.2.2.1 1)), x.2.2.1.2.2.2), x.2.2.2.1, x.2.2.2.2.1, x.2.2.2.2.2.1, x.2.2.2.2.2.2.1, x.2.2.2.2.2.2.2.1, x.2.2.2.2.2.2.2.2.1, x.2.2.2.2.2.2.2.2.2.1, x.2.2.2.2.2.2.2.2.2.2.1, x.2.2.2.2.2.2.2.2.2.2.2.1, x.2.2.2.2.2.2.2.2.2.2.2.2.1, ((x.2.2.1.2.2.1 (r1).toNatClampNeg), (x.2.2.1.2.2.2 (r1).toNatClampNeg)), x.2.2.2.2.2.2.2.2.2.2.2.2.2.2))) hx hb hK hP hD hS 4 1 rfl rfl (inL (by decide)) (by decide) dX5_look_140 rfl (fun H locs hP hD hS => ?_)
      refine lv_aload_n hx hb dX5_look_141 rfl (lv_at hl 1 rfl) ?_
      refine va_get (D := D) (ci := 5) (v := .ref (ad 5)) hx hb hG inX5 hown hK hP 0 rfl rfl 7 (by decide) (hG _ kw261) (fun _ h9 => h9) rfl dX5_look_142 ?_
      refine lv_iload_n hx hb dX5_look_145 rfl (lv_at hl 0 rfl) ?_
      refine lv_aload_n hx hb dX5_look_146 rfl (lv_at hl 1 rfl) ?_
      refine va_get (D := D) (ci := 5) (v := .ref (ad 5)) hx hb hG inX5 hown hK hP 0 rfl rfl 7 (by decide) (hG _ kw261) (fun _ h9 => h9) rfl dX5_look_147 ?_
      refine lv_iload_n hx hb dX5_look_150 rfl (lv_at hl 0 rfl) ?_
      refine lv_iconst (v := 1) hx hb dX5_look_151 (by decide) ?_
      refine lv_isub hx hb dX5_look_152 ?_
      refine tI (y := 1) (by decide) ?_
      refine gl (D := D) (j := 1) (f := x.2.2.1.2.2.2) hx hb hK hP 5 1 rfl rfl (inL (by decide)) (by decide) dX5_look_153 ?_
      refine sl (D := D) (j := 2) (f := x.2.2.1.2.2.2) (x := (x.2.2.1.2.2.2 1)) (W' := (wM cI cJ ad (x.1, x.2.1, (x.2.2.1.1, (upd x.2.2.1.2.1 2 (x.2.2.1.2.1 1)), (vp_updL x.2.2.1.2.2.1 2 (x.2.2.1.2.2.1 1)), (vp_updL x.2.2.1.2.2.2 2 (x.2.2.1.2.2.2 1))), x.2.2.2.1, x.2.2.2.2.1, x.2.2.2.2.2.1, x.2.2.2.2.2.2.1, x.2.2.2.2.2.2.2.1, x.2.2.2.2.2.2.2.2.1, x.2.2.2.2.2.2.2.2.2.1, x.2.2.2.2.2.2.2.2.2.2.1, x.2.2.2.2.2.2.2.2.2.2.2.1, x.2.2.2.2.2.2.2.2.2.2.2.2.1, ((x.2.2.1.2.2.1 (r1).toNatClampNeg), (x.2.2.1.2.2.2 (r1).toNatClampNeg)), x.2.2.2.2.2.2.2.2.2.2.2.2.2.2))) hx hb hK hP hD hS 5 1 rfl rfl (inL (by decide)) (by decide) dX5_look_154 rfl (fun H locs hP hD hS => ?_)
      refine lv_iinc (k := 0) (v := (1 : Int32)) (lv' := [(2, .int ((1 : Int32))), (0, .ref (ad 0)), (1, .int (a0))]) hx hb dX5_look_155 hl rfl (by decide) (by decide) rfl (fun ls hl => ?_)
      refine lv_goto (tgt := 109) hx hb dX5_look_158 (by decide) ?_
      refine lv_iload_n hx hb dX5_look_109 rfl (lv_at hl 0 rfl) ?_
      refine lv_if_le (tgt := 161) hx hb dX5_look_110 (by decide) (fun h9 => absurd h9 (by decide)) (fun _ => ?_)
      refine lv_aload_n hx hb dX5_look_113 rfl (lv_at hl 1 rfl) ?_
      refine va_get (D := D) (ci := 5) (v := .ref (ad 2)) hx hb hG inX5 hown hK hP 0 rfl rfl 4 (by decide) (hG _ kw252) (fun _ h9 => h9) rfl dX5_look_114 ?_
      refine lv_iload_n hx hb dX5_look_117 rfl (lv_at hl 0 rfl) ?_
      refine lv_aload_n hx hb dX5_look_118 rfl (lv_at hl 1 rfl) ?_
      refine va_get (D := D) (ci := 5) (v := .ref (ad 2)) hx hb hG inX5 hown hK hP 0 rfl rfl 4 (by decide) (hG _ kw252) (fun _ h9 => h9) rfl dX5_look_119 ?_
      refine lv_iload_n hx hb dX5_look_122 rfl (lv_at hl 0 rfl) ?_
      refine lv_iconst (v := 1) hx hb dX5_look_123 (by decide) ?_
      refine lv_isub hx hb dX5_look_124 ?_
      refine tI (y := 0) (by decide) ?_
      refine gi (D := D) (j := 0) (f := (upd x.2.2.1.2.1 2 (x.2.2.1.2.1 1))) hx hb hK hP 2 0 rfl rfl (inL (by decide)) (by decide) dX5_look_125 ?_
      refine si (D := D) (j := 1) (f := (upd x.2.2.1.2.1 2 (x.2.2.1.2.1 1))) (x := ((upd x.2.2.1.2.1 2 (x.2.2.1.2.1 1)) 0)) (W' := (wM cI cJ ad (x.1, x.2.1, (x.2.2.1.1, (upd (upd x.2.2.1.2.1 2 (x.2.2.1.2.1 1)) 1 ((upd x.2.2.1.2.1 2 (x.2.2.1.2.1 1)) 0)), (vp_updL x.2.2.1.2.2.1 2 (x.2.2.1.2.2.1 1)), (vp_updL x.2.2.1.2.2.2 2 (x.2.2.1.2.2.2 1))), x.2.2.2.1, x.2.2.2.2.1, x.2.2.2.2.2.1, x.2.2.2.2.2.2.1, x.2.2.2.2.2.2.2.1, x.2.2.2.2.2.2.2.2.1, x.2.2.2.2.2.2.2.2.2.1, x.2.2.2.2.2.2.2.2.2.2.1, x.2.2.2.2.2.2.2.2.2.2.2.1, x.2.2.2.2.2.2.2.2.2.2.2.2.1, ((x.2.2.1.2.2.1 (r1).toNatClampNeg), (x.2.2.1.2.2.2 (r1).toNatClampNeg)), x.2.2.2.2.2.2.2.2.2.2.2.2.2.2))) hx hb hK hP hD hS 2 0 rfl rfl (inL (by decide)) (by decide) dX5_look_126 rfl (fun H locs hP hD hS => ?_)
      refine lv_aload_n hx hb dX5_look_127 rfl (lv_at hl 1 rfl) ?_
      refine va_get (D := D) (ci := 5) (v := .ref (ad 4)) hx hb hG inX5 hown hK hP 0 rfl rfl 6 (by decide) (hG _ kw259) (fun _ h9 => h9) rfl dX5_look_128 ?_
      refine lv_iload_n hx hb dX5_look_131 rfl (lv_at hl 0 rfl) ?_
      refine lv_aload_n hx hb dX5_look_132 rfl (lv_at hl 1 rfl) ?_
      refine va_get (D := D) (ci := 5) (v := .ref (ad 4)) hx hb hG inX5 hown hK hP 0 rfl rfl 6 (by decide) (hG _ kw259) (fun _ h9 => h9) rfl dX5_look_133 ?_
      refine lv_iload_n hx hb dX5_look_136 rfl (lv_at hl 0 rfl) ?_
      refine lv_iconst (v := 1) hx hb dX5_look_137 (by decide) ?_
      refine lv_isub hx hb dX5_look_138 ?_
      refine tI (y := 0) (by decide) ?_
      refine gl (D := D) (j := 0) (f := (vp_updL x.2.2.1.2.2.1 2 (x.2.2.1.2.2.1 1))) hx hb hK hP 4 1 rfl rfl (inL (by decide)) (by decide) dX5_look_139 ?_
      refine sl (D := D) (j := 1) (f := (vp_updL x.2.2.1.2.2.1 2 (x.2.2.1.2.2.1 1))) (x := ((vp_updL x.2.2.1.2.2.1 2 (x.2.2.1.2.2.1 1)) 0)) (W' := (wM cI cJ ad (x.1, x.2.1, (x.2.2.1.1, (upd (upd x.2.2.1.2.1 2 (x.2.2.1.2.1 1)) 1 ((upd x.2.2.1.2.1 2 (x.2.2.1.2.1 1)) 0)), (vp_updL (vp_updL x.2.2.1.2.2.1 2 (x.2.2.1.2.2.1 1)) 1 ((vp_updL x.2.2.1.2.2.1 2 (x.2.2.1.2.2.1 1)) 0)), (vp_updL x.2.2.1.2.2.2 2 (x.2.2.1.2.2.2 1))), x.2.2.2.1, x.2.2.2.2.1, x.2.2.2.2.2.1, x.2.2.2.2.2.2.1, x.2.2.2.2.2.2.2.1, x.2.2.2.2.2.2.2.2.1, x.2.2.2.2.2.2.2.2.2.1, x.2.2.2.2.2.2.2.2.2.2.1, x.2.2.2.2.2.2.2.2.2.2.2.1, x.2.2.2.2.2.2.2.2.2.2.2.2.1, ((x.2.2.1.2.2.1 (r1).toNatClampNeg), (x.2.2.1.2.2.2 (r1).toNatClampNeg)), x.2.2.2.2.2.2.2.2.2.2.2.2.2.2))) hx hb hK hP hD hS 4 1 rfl rfl (inL (by decide)) (by decide) dX5_look_140 rfl (fun H locs hP hD hS => ?_)
      refine lv_aload_n hx hb dX5_look_141 rfl (lv_at hl 1 rfl) ?_
      refine va_get (D := D) (ci := 5) (v := .ref (ad 5)) hx hb hG inX5 hown hK hP 0 rfl rfl 7 (by decide) (hG _ kw261) (fun _ h9 => h9) rfl dX5_look_142 ?_
      refine lv_iload_n hx hb dX5_look_145 rfl (lv_at hl 0 rfl) ?_
      refine lv_aload_n hx hb dX5_look_146 rfl (lv_at hl 1 rfl) ?_
      refine va_get (D := D) (ci := 5) (v := .ref (ad 5)) hx hb hG inX5 hown hK hP 0 rfl rfl 7 (by decide) (hG _ kw261) (fun _ h9 => h9) rfl dX5_look_147 ?_
      refine lv_iload_n hx hb dX5_look_150 rfl (lv_at hl 0 rfl) ?_
      refine lv_iconst (v := 1) hx hb dX5_look_151 (by decide) ?_
      refine lv_isub hx hb dX5_look_152 ?_
      refine tI (y := 0) (by decide) ?_
      refine gl (D := D) (j := 0) (f := (vp_updL x.2.2.1.2.2.2 2 (x.2.2.1.2.2.2 1))) hx hb hK hP 5 1 rfl rfl (inL (by decide)) (by decide) dX5_look_153 ?_
      refine sl (D := D) (j := 1) (f := (vp_updL x.2.2.1.2.2.2 2 (x.2.2.1.2.2.2 1))) (x := ((vp_updL x.2.2.1.2.2.2 2 (x.2.2.1.2.2.2 1)) 0)) (W' := (wM cI cJ ad (x.1, x.2.1, (x.2.2.1.1, (upd (upd x.2.2.1.2.1 2 (x.2.2.1.2.1 1)) 1 ((upd x.2.2.1.2.1 2 (x.2.2.1.2.1 1)) 0)), (vp_updL (vp_updL x.2.2.1.2.2.1 2 (x.2.2.1.2.2.1 1)) 1 ((vp_updL x.2.2.1.2.2.1 2 (x.2.2.1.2.2.1 1)) 0)), (vp_updL (vp_updL x.2.2.1.2.2.2 2 (x.2.2.1.2.2.2 1)) 1 ((vp_updL x.2.2.1.2.2.2 2 (x.2.2.1.2.2.2 1)) 0))), x.2.2.2.1, x.2.2.2.2.1, x.2.2.2.2.2.1, x.2.2.2.2.2.2.1, x.2.2.2.2.2.2.2.1, x.2.2.2.2.2.2.2.2.1, x.2.2.2.2.2.2.2.2.2.1, x.2.2.2.2.2.2.2.2.2.2.1, x.2.2.2.2.2.2.2.2.2.2.2.1, x.2.2.2.2.2.2.2.2.2.2.2.2.1, ((x.2.2.1.2.2.1 (r1).toNatClampNeg), (x.2.2.1.2.2.2 (r1).toNatClampNeg)), x.2.2.2.2.2.2.2.2.2.2.2.2.2.2))) hx hb hK hP hD hS 5 1 rfl rfl (inL (by decide)) (by decide) dX5_look_154 rfl (fun H locs hP hD hS => ?_)
      refine lv_iinc (k := 0) (v := (0 : Int32)) (lv' := [(2, .int ((0 : Int32))), (0, .ref (ad 0)), (1, .int (a0))]) hx hb dX5_look_155 hl rfl (by decide) (by decide) rfl (fun ls hl => ?_)
      refine lv_goto (tgt := 109) hx hb dX5_look_158 (by decide) ?_
      refine lv_iload_n hx hb dX5_look_109 rfl (lv_at hl 0 rfl) ?_
      refine lv_if_le (tgt := 161) hx hb dX5_look_110 (by decide) (fun _ => ?_) (fun h9 => absurd (by decide) h9)
      refine lv_aload_n hx hb dX5_look_161 rfl (lv_at hl 1 rfl) ?_
      refine va_get (D := D) (ci := 5) (v := .ref (ad 2)) hx hb hG inX5 hown hK hP 0 rfl rfl 4 (by decide) (hG _ kw252) (fun _ h9 => h9) rfl dX5_look_162 ?_
      refine lv_iconst (v := 0) hx hb dX5_look_165 (by decide) ?_
      refine lv_iload_n hx hb dX5_look_166 rfl (lv_at hl 2 rfl) ?_
      refine si (D := D) (j := 0) (f := (upd (upd x.2.2.1.2.1 2 (x.2.2.1.2.1 1)) 1 ((upd x.2.2.1.2.1 2 (x.2.2.1.2.1 1)) 0))) (x := a0) (W' := (wM cI cJ ad (x.1, x.2.1, (x.2.2.1.1, (upd (upd (upd x.2.2.1.2.1 2 (x.2.2.1.2.1 1)) 1 ((upd x.2.2.1.2.1 2 (x.2.2.1.2.1 1)) 0)) 0 a0), (vp_updL (vp_updL x.2.2.1.2.2.1 2 (x.2.2.1.2.2.1 1)) 1 ((vp_updL x.2.2.1.2.2.1 2 (x.2.2.1.2.2.1 1)) 0)), (vp_updL (vp_updL x.2.2.1.2.2.2 2 (x.2.2.1.2.2.2 1)) 1 ((vp_updL x.2.2.1.2.2.2 2 (x.2.2.1.2.2.2 1)) 0))), x.2.2.2.1, x.2.2.2.2.1, x.2.2.2.2.2.1, x.2.2.2.2.2.2.1, x.2.2.2.2.2.2.2.1, x.2.2.2.2.2.2.2.2.1, x.2.2.2.2.2.2.2.2.2.1, x.2.2.2.2.2.2.2.2.2.2.1, x.2.2.2.2.2.2.2.2.2.2.2.1, x.2.2.2.2.2.2.2.2.2.2.2.2.1, ((x.2.2.1.2.2.1 (r1).toNatClampNeg), (x.2.2.1.2.2.2 (r1).toNatClampNeg)), x.2.2.2.2.2.2.2.2.2.2.2.2.2.2))) hx hb hK hP hD hS 2 0 rfl rfl (inL (by decide)) (by decide) dX5_look_167 rfl (fun H locs hP hD hS => ?_)
      refine lv_aload_n hx hb dX5_look_168 rfl (lv_at hl 1 rfl) ?_
      refine va_get (D := D) (ci := 5) (v := .ref (ad 4)) hx hb hG inX5 hown hK hP 0 rfl rfl 6 (by decide) (hG _ kw259) (fun _ h9 => h9) rfl dX5_look_169 ?_
      refine lv_iconst (v := 0) hx hb dX5_look_172 (by decide) ?_
      refine lv_aload_n hx hb dX5_look_173 rfl (lv_at hl 1 rfl) ?_
      refine va_get (D := D) (ci := 5) (v := .long ((x.2.2.1.2.2.1 (r1).toNatClampNeg))) hx hb hG inX5 hown hK hP 0 rfl rfl 34 (by decide) (hG _ kw260) (fun _ h9 => h9) rfl dX5_look_174 ?_
      refine sl (D := D) (j := 0) (f := (vp_updL (vp_updL x.2.2.1.2.2.1 2 (x.2.2.1.2.2.1 1)) 1 ((vp_updL x.2.2.1.2.2.1 2 (x.2.2.1.2.2.1 1)) 0))) (x := (x.2.2.1.2.2.1 (r1).toNatClampNeg)) (W' := (wM cI cJ ad (x.1, x.2.1, (x.2.2.1.1, (upd (upd (upd x.2.2.1.2.1 2 (x.2.2.1.2.1 1)) 1 ((upd x.2.2.1.2.1 2 (x.2.2.1.2.1 1)) 0)) 0 a0), (vp_updL (vp_updL (vp_updL x.2.2.1.2.2.1 2 (x.2.2.1.2.2.1 1)) 1 ((vp_updL x.2.2.1.2.2.1 2 (x.2.2.1.2.2.1 1)) 0)) 0 (x.2.2.1.2.2.1 (r1).toNatClampNeg)), (vp_updL (vp_updL x.2.2.1.2.2.2 2 (x.2.2.1.2.2.2 1)) 1 ((vp_updL x.2.2.1.2.2.2 2 (x.2.2.1.2.2.2 1)) 0))), x.2.2.2.1, x.2.2.2.2.1, x.2.2.2.2.2.1, x.2.2.2.2.2.2.1, x.2.2.2.2.2.2.2.1, x.2.2.2.2.2.2.2.2.1, x.2.2.2.2.2.2.2.2.2.1, x.2.2.2.2.2.2.2.2.2.2.1, x.2.2.2.2.2.2.2.2.2.2.2.1, x.2.2.2.2.2.2.2.2.2.2.2.2.1, ((x.2.2.1.2.2.1 (r1).toNatClampNeg), (x.2.2.1.2.2.2 (r1).toNatClampNeg)), x.2.2.2.2.2.2.2.2.2.2.2.2.2.2))) hx hb hK hP hD hS 4 1 rfl rfl (inL (by decide)) (by decide) dX5_look_177 rfl (fun H locs hP hD hS => ?_)
      refine lv_aload_n hx hb dX5_look_178 rfl (lv_at hl 1 rfl) ?_
      refine va_get (D := D) (ci := 5) (v := .ref (ad 5)) hx hb hG inX5 hown hK hP 0 rfl rfl 7 (by decide) (hG _ kw261) (fun _ h9 => h9) rfl dX5_look_179 ?_
      refine lv_iconst (v := 0) hx hb dX5_look_182 (by decide) ?_
      refine lv_aload_n hx hb dX5_look_183 rfl (lv_at hl 1 rfl) ?_
      refine va_get (D := D) (ci := 5) (v := .long ((x.2.2.1.2.2.2 (r1).toNatClampNeg))) hx hb hG inX5 hown hK hP 0 rfl rfl 35 (by decide) (hG _ kw262) (fun _ h9 => h9) rfl dX5_look_184 ?_
      refine sl (D := D) (j := 0) (f := (vp_updL (vp_updL x.2.2.1.2.2.2 2 (x.2.2.1.2.2.2 1)) 1 ((vp_updL x.2.2.1.2.2.2 2 (x.2.2.1.2.2.2 1)) 0))) (x := (x.2.2.1.2.2.2 (r1).toNatClampNeg)) (W' := (wM cI cJ ad (x.1, x.2.1, (x.2.2.1.1, (upd (upd (upd x.2.2.1.2.1 2 (x.2.2.1.2.1 1)) 1 ((upd x.2.2.1.2.1 2 (x.2.2.1.2.1 1)) 0)) 0 a0), (vp_updL (vp_updL (vp_updL x.2.2.1.2.2.1 2 (x.2.2.1.2.2.1 1)) 1 ((vp_updL x.2.2.1.2.2.1 2 (x.2.2.1.2.2.1 1)) 0)) 0 (x.2.2.1.2.2.1 (r1).toNatClampNeg)), (vp_updL (vp_updL (vp_updL x.2.2.1.2.2.2 2 (x.2.2.1.2.2.2 1)) 1 ((vp_updL x.2.2.1.2.2.2 2 (x.2.2.1.2.2.2 1)) 0)) 0 (x.2.2.1.2.2.2 (r1).toNatClampNeg))), x.2.2.2.1, x.2.2.2.2.1, x.2.2.2.2.2.1, x.2.2.2.2.2.2.1, x.2.2.2.2.2.2.2.1, x.2.2.2.2.2.2.2.2.1, x.2.2.2.2.2.2.2.2.2.1, x.2.2.2.2.2.2.2.2.2.2.1, x.2.2.2.2.2.2.2.2.2.2.2.1, x.2.2.2.2.2.2.2.2.2.2.2.2.1, ((x.2.2.1.2.2.1 (r1).toNatClampNeg), (x.2.2.1.2.2.2 (r1).toNatClampNeg)), x.2.2.2.2.2.2.2.2.2.2.2.2.2.2))) hx hb hK hP hD hS 5 1 rfl rfl (inL (by decide)) (by decide) dX5_look_187 rfl (fun H locs hP hD hS => ?_)
      exact retv (u := (x.1, x.2.1, (x.2.2.1.1, (upd (upd (upd x.2.2.1.2.1 2 (x.2.2.1.2.1 1)) 1 ((upd x.2.2.1.2.1 2 (x.2.2.1.2.1 1)) 0)) 0 a0), (vp_updL (vp_updL (vp_updL x.2.2.1.2.2.1 2 (x.2.2.1.2.2.1 1)) 1 ((vp_updL x.2.2.1.2.2.1 2 (x.2.2.1.2.2.1 1)) 0)) 0 (x.2.2.1.2.2.1 (r1).toNatClampNeg)), (vp_updL (vp_updL (vp_updL x.2.2.1.2.2.2 2 (x.2.2.1.2.2.2 1)) 1 ((vp_updL x.2.2.1.2.2.2 2 (x.2.2.1.2.2.2 1)) 0)) 0 (x.2.2.1.2.2.2 (r1).toNatClampNeg))), x.2.2.2.1, x.2.2.2.2.1, x.2.2.2.2.2.1, x.2.2.2.2.2.2.1, x.2.2.2.2.2.2.2.1, x.2.2.2.2.2.2.2.2.1, x.2.2.2.2.2.2.2.2.2.1, x.2.2.2.2.2.2.2.2.2.2.1, x.2.2.2.2.2.2.2.2.2.2.2.1, x.2.2.2.2.2.2.2.2.2.2.2.2.1, ((x.2.2.1.2.2.1 (r1).toNatClampNeg), (x.2.2.1.2.2.2 (r1).toNatClampNeg)), x.2.2.2.2.2.2.2.2.2.2.2.2.2.2)) hx hb hr hlocks hK hP hD hS dX5_look_188 (by unfold fnX5_look; rw [← q1]; (try dsimp only); rw [if_pos h2]; rw [if_neg h3]; rw [if_neg h4]; rw [if_pos h5]; (try exact rfl))
    have h6 : r1 = (3 : Int32) := c4l (plN j1 (Int32.not_lt.mpr h2)) h3 h4 h5
    have hl : lv_has ls 3 [(2, .int ((3 : Int32))), (0, .ref (ad 0)), (1, .int (a0))] := lvc h6 (lv_sub hl [0, 1, 2] rfl)
    refine lv_iload_n hx hb dX5_look_109 rfl (lv_at hl 0 rfl) ?_
    refine lv_if_le (tgt := 161) hx hb dX5_look_110 (by decide) (fun h9 => absurd h9 (by decide)) (fun _ => ?_)
    refine lv_aload_n hx hb dX5_look_113 rfl (lv_at hl 1 rfl) ?_
    refine va_get (D := D) (ci := 5) (v := .ref (ad 2)) hx hb hG inX5 hown hK hP 0 rfl rfl 4 (by decide) (hG _ kw252) (fun _ h9 => h9) rfl dX5_look_114 ?_
    refine lv_iload_n hx hb dX5_look_117 rfl (lv_at hl 0 rfl) ?_
    refine lv_aload_n hx hb dX5_look_118 rfl (lv_at hl 1 rfl) ?_
    refine va_get (D := D) (ci := 5) (v := .ref (ad 2)) hx hb hG inX5 hown hK hP 0 rfl rfl 4 (by decide) (hG _ kw252) (fun _ h9 => h9) rfl dX5_look_119 ?_
    refine lv_iload_n hx hb dX5_look_122 rfl (lv_at hl 0 rfl) ?_
    refine lv_iconst (v := 1) hx hb dX5_look_123 (by decide) ?_
    refine lv_isub hx hb dX5_look_124 ?_
    refine tI (y := 2) (by decide) ?_
    refine gi (D := D) (j := 2) (f := x.2.2.1.2.1) hx hb hK hP 2 0 rfl rfl (inL (by decide)) (by decide) dX5_look_125 ?_
    refine si (D := D) (j := 3) (f := x.2.2.1.2.1) (x := (x.2.2.1.2.1 2)) (W' := (wM cI cJ ad (x.1, x.2.1, (x.2.2.1.1, (upd x.2.2.1.2.1 3 (x.2.2.1.2.1 2)), x.2.2.1.2.2.1, x.2.2.1.2.2.2), x.2.2.2.1, x.2.2.2.2.1, x.2.2.2.2.2.1, x.2.2.2.2.2.2.1, x.2.2.2.2.2.2.2.1, x.2.2.2.2.2.2.2.2.1, x.2.2.2.2.2.2.2.2.2.1, x.2.2.2.2.2.2.2.2.2.2.1, x.2.2.2.2.2.2.2.2.2.2.2.1, x.2.2.2.2.2.2.2.2.2.2.2.2.1, ((x.2.2.1.2.2.1 (r1).toNatClampNeg), (x.2.2.1.2.2.2 (r1).toNatClampNeg)), x.2.2.2.2.2.2.2.2.2.2.2.2.2.2))) hx hb hK hP hD hS 2 0 rfl rfl (inL (by decide)) (by decide) dX5_look_126 rfl (fun H locs hP hD hS => ?_)
    refine lv_aload_n hx hb dX5_look_127 rfl (lv_at hl 1 rfl) ?_
    refine va_get (D := D) (ci := 5) (v := .ref (ad 4)) hx hb hG inX5 hown hK hP 0 rfl rfl 6 (by decide) (hG _ kw259) (fun _ h9 => h9) rfl dX5_look_128 ?_
    refine lv_iload_n hx hb dX5_look_131 rfl (lv_at hl 0 rfl) ?_
    refine lv_aload_n hx hb dX5_look_132 rfl (lv_at hl 1 rfl) ?_
    refine va_get (D := D) (ci := 5) (v := .ref (ad 4)) hx hb hG inX5 hown hK hP 0 rfl rfl 6 (by decide) (hG _ kw259) (fun _ h9 => h9) rfl dX5_look_133 ?_
    refine lv_iload_n hx hb dX5_look_136 rfl (lv_at hl 0 rfl) ?_
    refine lv_iconst (v := 1) hx hb dX5_look_137 (by decide) ?_
    refine lv_isub hx hb dX5_look_138 ?_
    refine tI (y := 2) (by decide) ?_
    refine gl (D := D) (j := 2) (f := x.2.2.1.2.2.1) hx hb hK hP 4 1 rfl rfl (inL (by decide)) (by decide) dX5_look_139 ?_
    refine sl (D := D) (j := 3) (f := x.2.2.1.2.2.1) (x := (x.2.2.1.2.2.1 2)) (W' := (wM cI cJ ad (x.1, x.2.1, (x.2.2.1.1, (upd x.2.2.1.2.1 3 (x.2.2.1.2.1 2)), (vp_updL x.2.2.1.2.2.1 3 (x.2.2.1.2.2.1 2)), x.2.2.1.2.2.2), x.2.2.2.1, x.2.2.2.2.1, x.2.2.2.2.2.1, x.2.2.2.2.2.2.1, x.2.2.2.2.2.2.2.1, x.2.2.2.2.2.2.2.2.1, x.2.2.2.2.2.2.2.2.2.1, x.2.2.2.2.2.2.2.2.2.2.1, x.2.2.2.2.2.2.2.2.2.2.2.1, x.2.2.2.2.2.2.2.2.2.2.2.2.1, ((x.2.2.1.2.2.1 (r1).toNatClampNeg), (x.2.2.1.2.2.2 (r1).toNatClampNeg)), x.2.2.2.2.2.2.2.2.2.2.2.2.2.2))) hx hb hK hP hD hS 4 1 rfl rfl (inL (by decide)) (by decide) dX5_look_140 rfl (fun H locs hP hD hS => ?_)
    refine lv_aload_n hx hb dX5_look_141 rfl (lv_at hl 1 rfl) ?_
    refine va_get (D := D) (ci := 5) (v := .ref (ad 5)) hx hb hG inX5 hown hK hP 0 rfl rfl 7 (by decide) (hG _ kw261) (fun _ h9 => h9) rfl dX5_look_142 ?_
    refine lv_iload_n hx hb dX5_look_145 rfl (lv_at hl 0 rfl) ?_
    refine lv_aload_n hx hb dX5_look_146 rfl (lv_at hl 1 rfl) ?_
    refine va_get (D := D) (ci := 5) (v := .ref (ad 5)) hx hb hG inX5 hown hK hP 0 rfl rfl 7 (by decide) (hG _ kw261) (fun _ h9 => h9) rfl dX5_look_147 ?_
    refine lv_iload_n hx hb dX5_look_150 rfl (lv_at hl 0 rfl) ?_
    refine lv_iconst (v := 1) hx hb dX5_look_151 (by decide) ?_
    refine lv_isub hx hb dX5_look_152 ?_
    refine tI (y := 2) (by decide) ?_
    refine gl (D := D) (j := 2) (f := x.2.2.1.2.2.2) hx hb hK hP 5 1 rfl rfl (inL (by decide)) (by decide) dX5_look_153 ?_
    refine sl (D := D) (j := 3) (f := x.2.2.1.2.2.2) (x := (x.2.2.1.2.2.2 2)) (W' := (wM cI cJ ad (x.1, x.2.1, (x.2.2.1.1, (upd x.2.2.1.2.1 3 (x.2.2.1.2.1 2)), (vp_updL x.2.2.1.2.2.1 3 (x.2.2.1.2.2.1 2)), (vp_updL x.2.2.1.2.2.2 3 (x.2.2.1.2.2.2 2))), x.2.2.2.1, x.2.2.2.2.1, x.2.2.2.2.2.1, x.2.2.2.2.2.2.1, x.2.2.2.2.2.2.2.1, x.2.2.2.2.2.2.2.2.1, x.2.2.2.2.2.2.2.2.2.1, x.2.2.2.2.2.2.2.2.2.2.1, x.2.2.2.2.2.2.2.2.2.2.2.1, x.2.2.2.2.2.2.2.2.2.2.2.2.1, ((x.2.2.1.2.2.1 (r1).toNatClampNeg), (x.2.2.1.2.2.2 (r1).toNatClampNeg)), x.2.2.2.2.2.2.2.2.2.2.2.2.2.2))) hx hb hK hP hD hS 5 1 rfl rfl (inL (by decide)) (by decide) dX5_look_154 rfl (fun H locs hP hD hS => ?_)
    refine lv_iinc (k := 0) (v := (2 : Int32)) (lv' := [(2, .int ((2 : Int32))), (0, .ref (ad 0)), (1, .int (a0))]) hx hb dX5_look_155 hl rfl (by decide) (by decide) rfl (fun ls hl => ?_)
    refine lv_goto (tgt := 109) hx hb dX5_look_158 (by decide) ?_
    refine lv_iload_n hx hb dX5_look_109 rfl (lv_at hl 0 rfl) ?_
    refine lv_if_le (tgt := 161) hx hb dX5_look_110 (by decide) (fun h9 => absurd h9 (by decide)) (fun _ => ?_)
    refine lv_aload_n hx hb dX5_look_113 rfl (lv_at hl 1 rfl) ?_
    refine va_get (D := D) (ci := 5) (v := .ref (ad 2)) hx hb hG inX5 hown hK hP 0 rfl rfl 4 (by decide) (hG _ kw252) (fun _ h9 => h9) rfl dX5_look_114 ?_
    refine lv_iload_n hx hb dX5_look_117 rfl (lv_at hl 0 rfl) ?_
    refine lv_aload_n hx hb dX5_look_118 rfl (lv_at hl 1 rfl) ?_
    refine va_get (D := D) (ci := 5) (v := .ref (ad 2)) hx hb hG inX5 hown hK hP 0 rfl rfl 4 (by decide) (hG _ kw252) (fun _ h9 => h9) rfl dX5_look_119 ?_
    refine lv_iload_n hx hb dX5_look_122 rfl (lv_at hl 0 rfl) ?_
    refine lv_iconst (v := 1) hx hb dX5_look_123 (by decide) ?_
    refine lv_isub hx hb dX5_look_124 ?_
    refine tI (y := 1) (by decide) ?_
    refine gi (D := D) (j := 1) (f := (upd x.2.2.1.2.1 3 (x.2.2.1.2.1 2))) hx hb hK hP 2 0 rfl rfl (inL (by decide)) (by decide) dX5_look_125 ?_
    refine si (D := D) (j := 2) (f := (upd x.2.2.1.2.1 3 (x.2.2.1.2.1 2))) (x := ((upd x.2.2.1.2.1 3 (x.2.2.1.2.1 2)) 1)) (W' := (wM cI cJ ad (x.1, x.2.1, (x.2.2.1.1, (upd (upd x.2.2.1.2.1 3 (x.2.2.1.2.1 2)) 2 ((upd x.2.2.1.2.1 3 (x.2.2.1.2.1 2)) 1)), (vp_updL x.2.2.1.2.2.1 3 (x.2.2.1.2.2.1 2)), (vp_updL x.2.2.1.2.2.2 3 (x.2.2.1.2.2.2 2))), x.2.2.2.1, x.2.2.2.2.1, x.2.2.2.2.2.1, x.2.2.2.2.2.2.1, x.2.2.2.2.2.2.2.1, x.2.2.2.2.2.2.2.2.1, x.2.2.2.2.2.2.2.2.2.1, x.2.2.2.2.2.2.2.2.2.2.1, x.2.2.2.2.2.2.2.2.2.2.2.1, x.2.2.2.2.2.2.2.2.2.2.2.2.1, ((x.2.2.1.2.2.1 (r1).toNatClampNeg), (x.2.2.1.2.2.2 (r1).toNatClampNeg)), x.2.2.2.2.2.2.2.2.2.2.2.2.2.2))) hx hb hK hP hD hS 2 0 rfl rfl (inL (by decide)) (by decide) dX5_look_126 rfl (fun H locs hP hD hS => ?_)
    refine lv_aload_n hx hb dX5_look_127 rfl (lv_at hl 1 rfl) ?_
    refine va_get (D := D) (ci := 5) (v := .ref (ad 4)) hx hb hG inX5 hown hK hP 0 rfl rfl 6 (by decide) (hG _ kw259) (fun _ h9 => h9) rfl dX5_look_128 ?_
    refine lv_iload_n hx hb dX5_look_131 rfl (lv_at hl 0 rfl) ?_
    refine lv_aload_n hx hb dX5_look_132 rfl (lv_at hl 1 rfl) ?_
    refine va_get (D := D) (ci := 5) (v := .ref (ad 4)) hx hb hG inX5 hown hK hP 0 rfl rfl 6 (by decide) (hG _ kw259) (fun _ h9 => h9) rfl dX5_look_133 ?_
    refine lv_iload_n hx hb dX5_look_136 rfl (lv_at hl 0 rfl) ?_
    refine lv_iconst (v := 1) hx hb dX5_look_137 (by decide) ?_
    refine lv_isub hx hb dX5_look_138 ?_
    refine tI (y := 1) (by decide) ?_
    refine gl (D := D) (j := 1) (f := (vp_updL x.2.2.1.2.2.1 3 (x.2.2.1.2.2.1 2))) hx hb hK hP 4 1 rfl rfl (inL (by decide)) (by decide) dX5_look_139 ?_
    refine sl (D := D) (j := 2) (f := (vp_updL x.2.2.1.2.2.1 3 (x.2.2.1.2.2.1 2))) (x := ((vp_updL x.2.2.1.2.2.1 3 (x.2.2.1.2.2.1 2)) 1)) (W' := (wM cI cJ ad (x.1, x.2.1, (x.2.2.1.1, (upd (upd x.2.2.1.2.1 3 (x.2.2.1.2.1 2)) 2 ((upd x.2.2.1.2.1 3 (x.2.2.1.2.1 2)) 1)), (vp_updL (vp_updL x.2.2.1.2.2.1 3 (x.2.2.1.2.2.1 2)) 2 ((vp_updL x.2.2.1.2.2.1 3 (x.2.2.1.2.2.1 2)) 1)), (vp_updL x.2.2.1.2.2.2 3 (x.2.2.1.2.2.2 2))), x.2.2.2.1, x.2.2.2.2.1, x.2.2.2.2.2.1, x.2.2.2.2.2.2.1, x.2.2.2.2.2.2.2.1, x.2.2.2.2.2.2.2.2.1, x.2.2.2.2.2.2.2.2.2.1, x.2.2.2.2.2.2.2.2.2.2.1, x.2.2.2.2.2.2.2.2.2.2.2.1, x.2.2.2.2.2.2.2.2.2.2.2.2.1, ((x.2.2.1.2.2.1 (r1).toNatClampNeg), (x.2.2.1.2.2.2 (r1).toNatClampNeg)), x.2.2.2.2.2.2.2.2.2.2.2.2.2.2))) hx hb hK hP hD hS 4 1 rfl rfl (inL (by decide)) (by decide) dX5_look_140 rfl (fun H locs hP hD hS => ?_)
    refine lv_aload_n hx hb dX5_look_141 rfl (lv_at hl 1 rfl) ?_
    refine va_get (D := D) (ci := 5) (v := .ref (ad 5)) hx hb hG inX5 hown hK hP 0 rfl rfl 7 (by decide) (hG _ kw261) (fun _ h9 => h9) rfl dX5_look_142 ?_
    refine lv_iload_n hx hb dX5_look_145 rfl (lv_at hl 0 rfl) ?_
    refine lv_aload_n hx hb dX5_look_146 rfl (lv_at hl 1 rfl) ?_
    refine va_get (D := D) (ci := 5) (v := .ref (ad 5)) hx hb hG inX5 hown hK hP 0 rfl rfl 7 (by decide) (hG _ kw261) (fun _ h9 => h9) rfl dX5_look_147 ?_
    refine lv_iload_n hx hb dX5_look_150 rfl (lv_at hl 0 rfl) ?_
    refine lv_iconst (v := 1) hx hb dX5_look_151 (by decide) ?_
    refine lv_isub hx hb dX5_look_152 ?_
    refine tI (y := 1) (by decide) ?_
    refine gl (D := D) (j := 1) (f := (vp_updL x.2.2.1.2.2.2 3 (x.2.2.1.2.2.2 2))) hx hb hK hP 5 1 rfl rfl (inL (by decide)) (by decide) dX5_look_153 ?_
    refine sl (D := D) (j := 2) (f := (vp_updL x.2.2.1.2.2.2 3 (x.2.2.1.2.2.2 2))) (x := ((vp_updL x.2.2.1.2.2.2 3 (x.2.2.1.2.2.2 2)) 1)) (W' := (wM cI cJ ad (x.1, x.2.1, (x.2.2.1.1, (upd (upd x.2.2.1.2.1 3 (x.2.2.1.2.1 2)) 2 ((upd x.2.2.1.2.1 3 (x.2.2.1.2.1 2)) 1)), (vp_updL (vp_updL x.2.2.1.2.2.1 3 (x.2.2.1.2.2.1 2)) 2 ((vp_updL x.2.2.1.2.2.1 3 (x.2.2.1.2.2.1 2)) 1)), (vp_updL (vp_updL x.2.2.1.2.2.2 3 (x.2.2.1.2.2.2 2)) 2 ((vp_updL x.2.2.1.2.2.2 3 (x.2.2.1.2.2.2 2)) 1))), x.2.2.2.1, x.2.2.2.2.1, x.2.2.2.2.2.1, x.2.2.2.2.2.2.1, x.2.2.2.2.2.2.2.1, x.2.2.2.2.2.2.2.2.1, x.2.2.2.2.2.2.2.2.2.1, x.2.2.2.2.2.2.2.2.2.2.1, x.2.2.2.2.2.2.2.2.2.2.2.1, x.2.2.2.2.2.2.2.2.2.2.2.2.1, ((x.2.2.1.2.2.1 (r1).toNatClampNeg), (x.2.2.1.2.2.2 (r1).toNatClampNeg)), x.2.2.2.2.2.2.2.2.2.2.2.2.2.2))) hx hb hK hP hD hS 5 1 rfl rfl (inL (by decide)) (by decide) dX5_look_154 rfl (fun H locs hP hD hS => ?_)
    refine lv_iinc (k := 0) (v := (1 : Int32)) (lv' := [(2, .int ((1 : Int32))), (0, .ref (ad 0)), (1, .int (a0))]) hx hb dX5_look_155 hl rfl (by decide) (by decide) rfl (fun ls hl => ?_)
    refine lv_goto (tgt := 109) hx hb dX5_look_158 (by decide) ?_
    refine lv_iload_n hx hb dX5_look_109 rfl (lv_at hl 0 rfl) ?_
    refine lv_if_le (tgt := 161) hx hb dX5_look_110 (by decide) (fun h9 => absurd h9 (by decide)) (fun _ => ?_)
    refine lv_aload_n hx hb dX5_look_113 rfl (lv_at hl 1 rfl) ?_
    refine va_get (D := D) (ci := 5) (v := .ref (ad 2)) hx hb hG inX5 hown hK hP 0 rfl rfl 4 (by decide) (hG _ kw252) (fun _ h9 => h9) rfl dX5_look_114 ?_
    refine lv_iload_n hx hb dX5_look_117 rfl (lv_at hl 0 rfl) ?_
    refine lv_aload_n hx hb dX5_look_118 rfl (lv_at hl 1 rfl) ?_
    refine va_get (D := D) (ci := 5) (v := .ref (ad 2)) hx hb hG inX5 hown hK hP 0 rfl rfl 4 (by decide) (hG _ kw252) (fun _ h9 => h9) rfl dX5_look_119 ?_
    refine lv_iload_n hx hb dX5_look_122 rfl (lv_at hl 0 rfl) ?_
    refine lv_iconst (v := 1) hx hb dX5_look_123 (by decide) ?_
    refine lv_isub hx hb dX5_look_124 ?_
    refine tI (y := 0) (by decide) ?_
    refine gi (D := D) (j := 0) (f := (upd (upd x.2.2.1.2.1 3 (x.2.2.1.2.1 2)) 2 ((upd x.2.2.1.2.1 3 (x.2.2.1.2.1 2)) 1))) hx hb hK hP 2 0 rfl rfl (inL (by decide)) (by decide) dX5_look_125 ?_
    refine si (D := D) (j := 1) (f := (upd (upd x.2.2.1.2.1 3 (x.2.2.1.2.1 2)) 2 ((upd x.2.2.1.2.1 3 (x.2.2.1.2.1 2)) 1))) (x := ((upd (upd x.2.2.1.2.1 3 (x.2.2.1.2.1 2)) 2 ((upd x.2.2.1.2.1 3 (x.2.2.1.2.1 2)) 1)) 0)) (W' := (wM cI cJ ad (x.1, x.2.1, (x.2.2.1.1, (upd (upd (upd x.2.2.1.2.1 3 (x.2.2.1.2.1 2)) 2 ((upd x.2.2.1.2.1 3 (x.2.2.1.2.1 2)) 1)) 1 ((upd (upd x.2.2.1.2.1 3 (x.2.2.1.2.1 2)) 2 ((upd x.2.2.1.2.1 3 (x.2.2.1.2.1 2)) 1)) 0)), (vp_updL (vp_updL x.2.2.1.2.2.1 3 (x.2.2.1.2.2.1 2)) 2 ((vp_updL x.2.2.1.2.2.1 3 (x.2.2.1.2.2.1 2)) 1)), (vp_updL (vp_updL x.2.2.1.2.2.2 3 (x.2.2.1.2.2.2 2)) 2 ((vp_updL x.2.2.1.2.2.2 3 (x.2.2.1.2.2.2 2)) 1))), x.2.2.2.1, x.2.2.2.2.1, x.2.2.2.2.2.1, x.2.2.2.2.2.2.1, x.2.2.2.2.2.2.2.1, x.2.2.2.2.2.2.2.2.1, x.2.2.2.2.2.2.2.2.2.1, x.2.2.2.2.2.2.2.2.2.2.1, x.2.2.2.2.2.2.2.2.2.2.2.1, x.2.2.2.2.2.2.2.2.2.2.2.2.1, ((x.2.2.1.2.2.1 (r1).toNatClampNeg), (x.2.2.1.2.2.2 (r1).toNatClampNeg)), x.2.2.2.2.2.2.2.2.2.2.2.2.2.2))) hx hb hK hP hD hS 2 0 rfl rfl (inL (by decide)) (by decide) dX5_look_126 rfl (fun H locs hP hD hS => ?_)
    refine lv_aload_n hx hb dX5_look_127 rfl (lv_at hl 1 rfl) ?_
    refine va_get (D := D) (ci := 5) (v := .ref (ad 4)) hx hb hG inX5 hown hK hP 0 rfl rfl 6 (by decide) (hG _ kw259) (fun _ h9 => h9) rfl dX5_look_128 ?_
    refine lv_iload_n hx hb dX5_look_131 rfl (lv_at hl 0 rfl) ?_
    refine lv_aload_n hx hb dX5_look_132 rfl (lv_at hl 1 rfl) ?_
    refine va_get (D := D) (ci := 5) (v := .ref (ad 4)) hx hb hG inX5 hown hK hP 0 rfl rfl 6 (by decide) (hG _ kw259) (fun _ h9 => h9) rfl dX5_look_133 ?_
    refine lv_iload_n hx hb dX5_look_136 rfl (lv_at hl 0 rfl) ?_
    refine lv_iconst (v := 1) hx hb dX5_look_137 (by decide) ?_
    refine lv_isub hx hb dX5_look_138 ?_
    refine tI (y := 0) (by decide) ?_
    refine gl (D := D) (j := 0) (f := (vp_updL (vp_updL x.2.2.1.2.2.1 3 (x.2.2.1.2.2.1 2)) 2 ((vp_updL x.2.2.1.2.2.1 3 (x.2.2.1.2.2.1 2)) 1))) hx hb hK hP 4 1 rfl rfl (inL (by decide)) (by decide) dX5_look_139 ?_
    refine sl (D := D) (j := 1) (f := (vp_updL (vp_updL x.2.2.1.2.2.1 3 (x.2.2.1.2.2.1 2)) 2 ((vp_updL x.2.2.1.2.2.1 3 (x.2.2.1.2.2.1 2)) 1))) (x := ((vp_updL (vp_updL x.2.2.1.2.2.1 3 (x.2.2.1.2.2.1 2)) 2 ((vp_updL x.2.2.1.2.2.1 3 (x.2.2.1.2.2.1 2)) 1)) 0)) (W' := (wM cI cJ ad (x.1, x.2.1, (x.2.2.1.1, (upd (upd (upd x.2.2.1.2.1 3 (x.2.2.1.2.1 2)) 2 ((upd x.2.2.1.2.1 3 (x.2.2.1.2.1 2)) 1)) 1 ((upd (upd x.2.2.1.2.1 3 (x.2.2.1.2.1 2)) 2 ((upd x.2.2.1.2.1 3 (x.2.2.1.2.1 2)) 1)) 0)), (vp_updL (vp_updL (vp_updL x.2.2.1.2.2.1 3 (x.2.2.1.2.2.1 2)) 2 ((vp_updL x.2.2.1.2.2.1 3 (x.2.2.1.2.2.1 2)) 1)) 1 ((vp_updL (vp_updL x.2.2.1.2.2.1 3 (x.2.2.1.2.2.1 2)) 2 ((vp_updL x.2.2.1.2.2.1 3 (x.2.2.1.2.2.1 2)) 1)) 0)), (vp_updL (vp_updL x.2.2.1.2.2.2 3 (x.2.2.1.2.2.2 2)) 2 ((vp_updL x.2.2.1.2.2.2 3 (x.2.2.1.2.2.2 2)) 1))), x.2.2.2.1, x.2.2.2.2.1, x.2.2.2.2.2.1, x.2.2.2.2.2.2.1, x.2.2.2.2.2.2.2.1, x.2.2.2.2.2.2.2.2.1, x.2.2.2.2.2.2.2.2.2.1, x.2.2.2.2.2.2.2.2.2.2.1, x.2.2.2.2.2.2.2.2.2.2.2.1, x.2.2.2.2.2.2.2.2.2.2.2.2.1, ((x.2.2.1.2.2.1 (r1).toNatClampNeg), (x.2.2.1.2.2.2 (r1).toNatClampNeg)), x.2.2.2.2.2.2.2.2.2.2.2.2.2.2))) hx hb hK hP hD hS 4 1 rfl rfl (inL (by decide)) (by decide) dX5_look_140 rfl (fun H locs hP hD hS => ?_)
    refine lv_aload_n hx hb dX5_look_141 rfl (lv_at hl 1 rfl) ?_
    refine va_get (D := D) (ci := 5) (v := .ref (ad 5)) hx hb hG inX5 hown hK hP 0 rfl rfl 7 (by decide) (hG _ kw261) (fun _ h9 => h9) rfl dX5_look_142 ?_
    refine lv_iload_n hx hb dX5_look_145 rfl (lv_at hl 0 rfl) ?_
    refine lv_aload_n hx hb dX5_look_146 rfl (lv_at hl 1 rfl) ?_
    refine va_get (D := D) (ci := 5) (v := .ref (ad 5)) hx hb hG inX5 hown hK hP 0 rfl rfl 7 (by decide) (hG _ kw261) (fun _ h9 => h9) rfl dX5_look_147 ?_
    refine lv_iload_n hx hb dX5_look_150 rfl (lv_at hl 0 rfl) ?_
    refine lv_iconst (v := 1) hx hb dX5_look_151 (by decide) ?_
    refine lv_isub hx hb dX5_look_152 ?_
    refine tI (y := 0) (by decide) ?_
    refine gl (D := D) (j := 0) (f := (vp_updL (vp_updL x.2.2.1.2.2.2 3 (x.2.2.1.2.2.2 2)) 2 ((vp_updL x.2.2.1.2.2.2 3 (x.2.2.1.2.2.2 2)) 1))) hx hb hK hP 5 1 rfl rfl (inL (by decide)) (by decide) dX5_look_153 ?_
    refine sl (D := D) (j := 1) (f := (vp_updL (vp_updL x.2.2.1.2.2.2 3 (x.2.2.1.2.2.2 2)) 2 ((vp_updL x.2.2.1.2.2.2 3 (x.2.2.1.2.2.2 2)) 1))) (x := ((vp_updL (vp_updL x.2.2.1.2.2.2 3 (x.2.2.1.2.2.2 2)) 2 ((vp_updL x.2.2.1.2.2.2 3 (x.2.2.1.2.2.2 2)) 1)) 0)) (W' := (wM cI cJ ad (x.1, x.2.1, (x.2.2.1.1, (upd (upd (upd x.2.2.1.2.1 3 (x.2.2.1.2.1 2)) 2 ((upd x.2.2.1.2.1 3 (x.2.2.1.2.1 2)) 1)) 1 ((upd (upd x.2.2.1.2.1 3 (x.2.2.1.2.1 2)) 2 ((upd x.2.2.1.2.1 3 (x.2.2.1.2.1 2)) 1)) 0)), (vp_updL (vp_updL (vp_updL x.2.2.1.2.2.1 3 (x.2.2.1.2.2.1 2)) 2 ((vp_updL x.2.2.1.2.2.1 3 (x.2.2.1.2.2.1 2)) 1)) 1 ((vp_updL (vp_updL x.2.2.1.2.2.1 3 (x.2.2.1.2.2.1 2)) 2 ((vp_updL x.2.2.1.2.2.1 3 (x.2.2.1.2.2.1 2)) 1)) 0)), (vp_updL (vp_updL (vp_updL x.2.2.1.2.2.2 3 (x.2.2.1.2.2.2 2)) 2 ((vp_updL x.2.2.1.2.2.2 3 (x.2.2.1.2.2.2 2)) 1)) 1 ((vp_updL (vp_updL x.2.2.1.2.2.2 3 (x.2.2.1.2.2.2 2)) 2 ((vp_updL x.2.2.1.2.2.2 3 (x.2.2.1.2.2.2 2)) 1)) 0))), x.2.2.2.1, x.2.2.2.2.1, x.2.2.2.2.2.1, x.2.2.2.2.2.2.1, x.2.2.2.2.2.2.2.1, x.2.2.2.2.2.2.2.2.1, x.2.2.2.2.2.2.2.2.2.1, x.2.2.2.2.2.2.2.2.2.2.1, x.2.2.2.2.2.2.2.2.2.2.2.1, x.2.2.2.2.2.2.2.2.2.2.2.2.1, ((x.2.2.1.2.2.1 (r1).toNatClampNeg), (x.2.2.1.2.2.2 (r1).toNatClampNeg)), x.2.2.2.2.2.2.2.2.2.2.2.2.2.2))) hx hb hK hP hD hS 5 1 rfl rfl (inL (by decide)) (by decide) dX5_look_154 rfl (fun H locs hP hD hS => ?_)
    refine lv_iinc (k := 0) (v := (0 : Int32)) (lv' := [(2, .int ((0 : Int32))), (0, .ref (ad 0)), (1, .int (a0))]) hx hb dX5_look_155 hl rfl (by decide) (by decide) rfl (fun ls hl => ?_)
    refine lv_goto (tgt := 109) hx hb dX5_look_158 (by decide) ?_
    refine lv_iload_n hx hb dX5_look_109 rfl (lv_at hl 0 rfl) ?_
    refine lv_if_le (tgt := 161) hx hb dX5_look_110 (by decide) (fun _ => ?_) (fun h9 => absurd (by decide) h9)
    refine lv_aload_n hx hb dX5_look_161 rfl (lv_at hl 1 rfl) ?_
    refine va_get (D := D) (ci := 5) (v := .ref (ad 2)) hx hb hG inX5 hown hK hP 0 rfl rfl 4 (by decide) (hG _ kw252) (fun _ h9 => h9) rfl dX5_look_162 ?_
    refine lv_iconst (v := 0) hx hb dX5_look_165 (by decide) ?_
    refine lv_iload_n hx hb dX5_look_166 rfl (lv_at hl 2 rfl) ?_
    refine si (D := D) (j := 0) (f := (upd (upd (upd x.2.2.1.2.1 3 (x.2.2.1.2.1 2)) 2 ((upd x.2.2.1.2.1 3 (x.2.2.1.2.1 2)) 1)) 1 ((upd (upd x.2.2.1.2.1 3 (x.2.2.1.2.1 2)) 2 ((upd x.2.2.1.2.1 3 (x.2.2.1.2.1 2)) 1)) 0))) (x := a0) (W' := (wM cI cJ ad (x.1, x.2.1, (x.2.2.1.1, (upd (upd (upd (upd x.2.2.1.2.1 3 (x.2.2.1.2.1 2)) 2 ((upd x.2.2.1.2.1 3 (x.2.2.1.2.1 2)) 1)) 1 ((upd (upd x.2.2.1.2.1 3 (x.2.2.1.2.1 2)) 2 ((upd x.2.2.1.2.1 3 (x.2.2.1.2.1 2)) 1)) 0)) 0 a0), (vp_updL (vp_updL (vp_updL x.2.2.1.2.2.1 3 (x.2.2.1.2.2.1 2)) 2 ((vp_updL x.2.2.1.2.2.1 3 (x.2.2.1.2.2.1 2)) 1)) 1 ((vp_updL (vp_updL x.2.2.1.2.2.1 3 (x.2.2.1.2.2.1 2)) 2 ((vp_updL x.2.2.1.2.2.1 3 (x.2.2.1.2.2.1 2)) 1)) 0)), (vp_updL (vp_updL (vp_updL x.2.2.1.2.2.2 3 (x.2.2.1.2.2.2 2)) 2 ((vp_updL x.2.2.1.2.2.2 3 (x.2.2.1.2.2.2 2)) 1)) 1 ((vp_updL (vp_updL x.2.2.1.2.2.2 3 (x.2.2.1.2.2.2 2)) 2 ((vp_updL x.2.2.1.2.2.2 3 (x.2.2.1.2.2.2 2)) 1)) 0))), x.2.2.2.1, x.2.2.2.2.1, x.2.2.2.2.2.1, x.2.2.2.2.2.2.1, x.2.2.2.2.2.2.2.1, x.2.2.2.2.2.2.2.2.1, x.2.2.2.2.2.2.2.2.2.1, x.2.2.2.2.2.2.2.2.2.2.1, x.2.2.2.2.2.2.2.2.2.2.2.1, x.2.2.2.2.2.2.2.2.2.2.2.2.1, ((x.2.2.1.2.2.1 (r1).toNatClampNeg), (x.2.2.1.2.2.2 (r1).toNatClampNeg)), x.2.2.2.2.2.2.2.2.2.2.2.2.2.2))) hx hb hK hP hD hS 2 0 rfl rfl (inL (by decide)) (by decide) dX5_look_167 rfl (fun H locs hP hD hS => ?_)
    refine lv_aload_n hx hb dX5_look_168 rfl (lv_at hl 1 rfl) ?_
    refine va_get (D := D) (ci := 5) (v := .ref (ad 4)) hx hb hG inX5 hown hK hP 0 rfl rfl 6 (by decide) (hG _ kw259) (fun _ h9 => h9) rfl dX5_look_169 ?_
    refine lv_iconst (v := 0) hx hb dX5_look_172 (by decide) ?_
    refine lv_aload_n hx hb dX5_look_173 rfl (lv_at hl 1 rfl) ?_
    refine va_get (D := D) (ci := 5) (v := .long ((x.2.2.1.2.2.1 (r1).toNatClampNeg))) hx hb hG inX5 hown hK hP 0 rfl rfl 34 (by decide) (hG _ kw260) (fun _ h9 => h9) rfl dX5_look_174 ?_
    refine sl (D := D) (j := 0) (f := (vp_updL (vp_updL (vp_updL x.2.2.1.2.2.1 3 (x.2.2.1.2.2.1 2)) 2 ((vp_updL x.2.2.1.2.2.1 3 (x.2.2.1.2.2.1 2)) 1)) 1 ((vp_updL (vp_updL x.2.2.1.2.2.1 3 (x.2.2.1.2.2.1 2)) 2 ((vp_updL x.2.2.1.2.2.1 3 (x.2.2.1.2.2.1 2)) 1)) 0))) (x := (x.2.2.1.2.2.1 (r1).toNatClampNeg)) (W' := (wM cI cJ ad (x.1, x.2.1, (x.2.2.1.1, (upd (upd (upd (upd x.2.2.1.2.1 3 (x.2.2.1.2.1 2)) 2 ((upd x.2.2.1.2.1 3 (x.2.2.1.2.1 2)) 1)) 1 ((upd (upd x.2.2.1.2.1 3 (x.2.2.1.2.1 2)) 2 ((upd x.2.2.1.2.1 3 (x.2.2.1.2.1 2)) 1)) 0)) 0 a0), (vp_updL (vp_updL (vp_updL (vp_updL x.2.2.1.2.2.1 3 (x.2.2.1.2.2.1 2)) 2 ((vp_updL x.2.2.1.2.2.1 3 (x.2.2.1.2.2.1 2)) 1)) 1 ((vp_updL (vp_updL x.2.2.1.2.2.1 3 (x.2.2.1.2.2.1 2)) 2 ((vp_updL x.2.2.1.2.2.1 3 (x.2.2.1.2.2.1 2)) 1)) 0)) 0 (x.2.2.1.2.2.1 (r1).toNatClampNeg)), (vp_updL (vp_updL (vp_updL x.2.2.1.2.2.2 3 (x.2.2.1.2.2.2 2)) 2 ((vp_updL x.2.2.1.2.2.2 3 (x.2.2.1.2.2.2 2)) 1)) 1 ((vp_updL (vp_updL x.2.2.1.2.2.2 3 (x.2.2.1.2.2.2 2)) 2 ((vp_updL x.2.2.1.2.2.2 3 (x.2.2.1.2.2.2 2)) 1)) 0))), x.2.2.2.1, x.2.2.2.2.1, x.2.2.2.2.2.1, x.2.2.2.2.2.2.1, x.2.2.2.2.2.2.2.1, x.2.2.2.2.2.2.2.2.1, x.2.2.2.2.2.2.2.2.2.1, x.2.2.2.2.2.2.2.2.2.2.1, x.2.2.2.2.2.2.2.2.2.2.2.1, x.2.2.2.2.2.2.2.2.2.2.2.2.1, ((x.2.2.1.2.2.1 (r1).toNatClampNeg), (x.2.2.1.2.2.2 (r1).toNatClampNeg)), x.2.2.2.2.2.2.2.2.2.2.2.2.2.2))) hx hb hK hP hD hS 4 1 rfl rfl (inL (by decide)) (by decide) dX5_look_177 rfl (fun H locs hP hD hS => ?_)
    refine lv_aload_n hx hb dX5_look_178 rfl (lv_at hl 1 rfl) ?_
    refine va_get (D := D) (ci := 5) (v := .ref (ad 5)) hx hb hG inX5 hown hK hP 0 rfl rfl 7 (by decide) (hG _ kw261) (fun _ h9 => h9) rfl dX5_look_179 ?_
    refine lv_iconst (v := 0) hx hb dX5_look_182 (by decide) ?_
    refine lv_aload_n hx hb dX5_look_183 rfl (lv_at hl 1 rfl) ?_
    refine va_get (D := D) (ci := 5) (v := .long ((x.2.2.1.2.2.2 (r1).toNatClampNeg))) hx hb hG inX5 hown hK hP 0 rfl rfl 35 (by decide) (hG _ kw262) (fun _ h9 => h9) rfl dX5_look_184 ?_
    refine sl (D := D) (j := 0) (f := (vp_updL (vp_updL (vp_updL x.2.2.1.2.2.2 3 (x.2.2.1.2.2.2 2)) 2 ((vp_updL x.2.2.1.2.2.2 3 (x.2.2.1.2.2.2 2)) 1)) 1 ((vp_updL (vp_updL x.2.2.1.2.2.2 3 (x.2.2.1.2.2.2 2)) 2 ((vp_updL x.2.2.1.2.2.2 3 (x.2.2.1.2.2.2 2)) 1)) 0))) (x := (x.2.2.1.2.2.2 (r1).toNatClampNeg)) (W' := (wM cI cJ ad (x.1, x.2.1, (x.2.2.1.1, (upd (upd (upd (upd x.2.2.1.2.1 3 (x.2.2.1.2.1 2)) 2 ((upd x.2.2.1.2.1 3 (x.2.2.1.2.1 2)) 1)) 1 ((upd (upd x.2.2.1.2.1 3 (x.2.2.1.2.1 2)) 2 ((upd x.2.2.1.2.1 3 (x.2.2.1.2.1 2)) 1)) 0)) 0 a0), (vp_updL (vp_updL (vp_updL (vp_updL x.2.2.1.2.2.1 3 (x.2.2.1.2.2.1 2)) 2 ((vp_updL x.2.2.1.2.2.1 3 (x.2.2.1.2.2.1 2)) 1)) 1 ((vp_updL (vp_updL x.2.2.1.2.2.1 3 (x.2.2.1.2.2.1 2)) 2 ((vp_updL x.2.2.1.2.2.1 3 (x.2.2.1.2.2.1 2)) 1)) 0)) 0 (x.2.2.1.2.2.1 (r1).toNatClampNeg)), (vp_updL (vp_updL (vp_updL (vp_updL x.2.2.1.2.2.2 3 (x.2.2.1.2.2.2 2)) 2 ((vp_updL x.2.2.1.2.2.2 3 (x.2.2.1.2.2.2 2)) 1)) 1 ((vp_updL (vp_updL x.2.2.1.2.2.2 3 (x.2.2.1.2.2.2 2)) 2 ((vp_updL x.2.2.1.2.2.2 3 (x.2.2.1.2.2.2 2)) 1)) 0)) 0 (x.2.2.1.2.2.2 (r1).toNatClampNeg))), x.2.2.2.1, x.2.2.2.2.1, x.2.2.2.2.2.1, x.2.2.2.2.2.2.1, x.2.2.2.2.2.2.2.1, x.2.2.2.2.2.2.2.2.1, x.2.2.2.2.2.2.2.2.2.1, x.2.2.2.2.2.2.2.2.2.2.1, x.2.2.2.2.2.2.2.2.2.2.2.1, x.2.2.2.2.2.2.2.2.2.2.2.2.1, ((x.2.2.1.2.2.1 (r1).toNatClampNeg), (x.2.2.1.2.2.2 (r1).toNatClampNeg)), x.2.2.2.2.2.2.2.2.2.2.2.2.2.2))) hx hb hK hP hD hS 5 1 rfl rfl (inL (by decide)) (by decide) dX5_look_187 rfl (fun H locs hP hD hS => ?_)
    exact retv (u := (x.1, x.2.1, (x.2.2.1.1, (upd (upd (upd (upd x.2.2.1.2.1 3 (x.2.2.1.2.1 2)) 2 ((upd x.2.2.1.2.1 3 (x.2.2.1.2.1 2)) 1)) 1 ((upd (upd x.2.2.1.2.1 3 (x.2.2.1.2.1 2)) 2 ((upd x.2.2.1.2.1 3 (x.2.2.1.2.1 2)) 1)) 0)) 0 a0), (vp_updL (vp_updL (vp_updL (vp_updL x.2.2.1.2.2.1 3 (x.2.2.1.2.2.1 2)) 2 ((vp_updL x.2.2.1.2.2.1 3 (x.2.2.1.2.2.1 2)) 1)) 1 ((vp_updL (vp_updL x.2.2.1.2.2.1 3 (x.2.2.1.2.2.1 2)) 2 ((vp_updL x.2.2.1.2.2.1 3 (x.2.2.1.2.2.1 2)) 1)) 0)) 0 (x.2.2.1.2.2.1 (r1).toNatClampNeg)), (vp_updL (vp_updL (vp_updL (vp_updL x.2.2.1.2.2.2 3 (x.2.2.1.2.2.2 2)) 2 ((vp_updL x.2.2.1.2.2.2 3 (x.2.2.1.2.2.2 2)) 1)) 1 ((vp_updL (vp_updL x.2.2.1.2.2.2 3 (x.2.2.1.2.2.2 2)) 2 ((vp_updL x.2.2.1.2.2.2 3 (x.2.2.1.2.2.2 2)) 1)) 0)) 0 (x.2.2.1.2.2.2 (r1).toNatClampNeg))), x.2.2.2.1, x.2.2.2.2.1, x.2.2.2.2.2.1, x.2.2.2.2.2.2.1, x.2.2.2.2.2.2.2.1, x.2.2.2.2.2.2.2.2.1, x.2.2.2.2.2.2.2.2.2.1, x.2.2.2.2.2.2.2.2.2.2.1, x.2.2.2.2.2.2.2.2.2.2.2.1, x.2.2.2.2.2.2.2.2.2.2.2.2.1, ((x.2.2.1.2.2.1 (r1).toNatClampNeg), (x.2.2.1.2.2.2 (r1).toNatClampNeg)), x.2.2.2.2.2.2.2.2.2.2.2.2.2.2)) hx hb hr hlocks hK hP hD hS dX5_look_188 (by unfold fnX5_look; rw [← q1]; (try dsimp only); rw [if_pos h2]; rw [if_neg h3]; rw [if_neg h4]; rw [if_neg h5]; (try exact rfl))
  · refine lv_aload_n hx hb dX5_look_11 rfl (lv_at hl 1 rfl) ?_
    refine va_get (D := D) (ci := 5) (v := .ref (ad 1)) hx hb hG inX5 hown hK hP 0 rfl rfl 1 (by decide) (hG _ kw263) (fun _ h9 => h9) rfl dX5_look_12 ?_
    refine lv_iconst (v := 2) hx hb dX5_look_15 (by decide) ?_
    refine lv_iload_n hx hb dX5_look_16 rfl (lv_at hl 2 rfl) ?_
    refine lv_imul hx hb dX5_look_17 ?_
    refine gl (D := D) (j := (((2 : Int32) * a0)).toNatClampNeg) (f := x.2.1) hx hb hK hP 1 1 rfl rfl (in12 (seg2 g0).1) rfl dX5_look_18 ?_
    refine lv_goto (tgt := 28) hx hb dX5_look_19 (by decide) ?_
    refine pu (D := D) (ci := 5) (v := .long ((x.2.1 (((2 : Int32) * a0)).toNatClampNeg))) (ty := .long) (W' := (wM cI cJ ad (x.1, x.2.1, x.2.2.1, x.2.2.2.1, x.2.2.2.2.1, x.2.2.2.2.2.1, x.2.2.2.2.2.2.1, x.2.2.2.2.2.2.2.1, x.2.2.2.2.2.2.2.2.1, x.2.2.2.2.2.2.2.2.2.1, x.2.2.2.2.2.2.2.2.2.2.1, x.2.2.2.2.2.2.2.2.2.2.2.1, x.2.2.2.2.2.2.2.2.2.2.2.2.1, ((x.2.1 (((2 : Int32) * a0)).toNatClampNeg), x.2.2.2.2.2.2.2.2.2.2.2.2.2.1.2), x.2.2.2.2.2.2.2.2.2.2.2.2.2.2))) hx hb hG inX5 tyX5 tyokX5 nmX5 hown hK hP hD hS 0 rfl rfl 34 (by decide) (hG _ kw260) (fun _ h9 => h9) rfl (by decide +kernel) rfl rfl (Nat.le_of_ble_eq_true rfl) dX5_look_28 rfl (fun H locs hP hD hS => ?_)
    refine lv_aload_n hx hb dX5_look_31 rfl (lv_at hl 1 rfl) ?_
    refine lv_iload_n hx hb dX5_look_32 rfl (lv_at hl 0 rfl) ?_
    refine lv_if_ge (tgt := 49) hx hb dX5_look_33 (by decide) (fun h9 => absurd h9 h2) (fun _ => ?_)
    refine lv_aload_n hx hb dX5_look_36 rfl (lv_at hl 1 rfl) ?_
    refine va_get (D := D) (ci := 5) (v := .ref (ad 1)) hx hb hG inX5 hown hK hP 0 rfl rfl 1 (by decide) (hG _ kw263) (fun _ h9 => h9) rfl dX5_look_37 ?_
    refine lv_iconst (v := 2) hx hb dX5_look_40 (by decide) ?_
    refine lv_iload_n hx hb dX5_look_41 rfl (lv_at hl 2 rfl) ?_
    refine lv_imul hx hb dX5_look_42 ?_
    refine lv_iconst (v := 1) hx hb dX5_look_43 (by decide) ?_
    refine lv_iadd hx hb dX5_look_44 ?_
    refine gl (D := D) (j := ((((2 : Int32) * a0) + (1 : Int32))).toNatClampNeg) (f := x.2.1) hx hb hK hP 1 1 rfl rfl (in12 (seg2 g0).2) rfl dX5_look_45 ?_
    refine lv_goto (tgt := 55) hx hb dX5_look_46 (by decide) ?_
    refine pu (D := D) (ci := 5) (v := .long ((x.2.1 ((((2 : Int32) * a0) + (1 : Int32))).toNatClampNeg))) (ty := .long) (W' := (wM cI cJ ad (x.1, x.2.1, x.2.2.1, x.2.2.2.1, x.2.2.2.2.1, x.2.2.2.2.2.1, x.2.2.2.2.2.2.1, x.2.2.2.2.2.2.2.1, x.2.2.2.2.2.2.2.2.1, x.2.2.2.2.2.2.2.2.2.1, x.2.2.2.2.2.2.2.2.2.2.1, x.2.2.2.2.2.2.2.2.2.2.2.1, x.2.2.2.2.2.2.2.2.2.2.2.2.1, ((x.2.1 (((2 : Int32) * a0)).toNatClampNeg), (x.2.1 ((((2 : Int32) * a0) + (1 : Int32))).toNatClampNeg)), x.2.2.2.2.2.2.2.2.2.2.2.2.2.2))) hx hb hG inX5 tyX5 tyokX5 nmX5 hown hK hP hD hS 0 rfl rfl 35 (by decide) (hG _ kw262) (fun _ h9 => h9) rfl (by decide +kernel) rfl rfl (Nat.le_of_ble_eq_true rfl) dX5_look_55 rfl (fun H locs hP hD hS => ?_)
    refine lv_iload_n hx hb dX5_look_58 rfl (lv_at hl 0 rfl) ?_
    refine lv_if_ge (tgt := 76) hx hb dX5_look_59 (by decide) (fun h9 => absurd h9 h2) (fun _ => ?_)
    refine lv_aload_n hx hb dX5_look_62 rfl (lv_at hl 1 rfl) ?_
    refine va_get (D := D) (ci := 5) (v := .long ((x.2.1 (((2 : Int32) * a0)).toNatClampNeg))) hx hb hG inX5 hown hK hP 0 rfl rfl 34 (by decide) (hG _ kw260) (fun _ h9 => h9) rfl dX5_look_63 ?_
    refine lv_ldc2 (v := 34359738368) hx hb hown (hG _ kw236) dX5_look_66 ?_
    refine lv_land hx hb dX5_look_69 ?_
    refine lv_lconst (v := 0) hx hb dX5_look_70 (by decide) ?_
    refine lq_ne (tgt := 76) hx hb dX5_look_71 dX5_look_72 (by decide) (fun h7 => ?_) (fun h7 => ?_)
    · refine lv_iload_n hx hb dX5_look_76 rfl (lv_at hl 0 rfl) ?_
      refine lv_if_ge (tgt := 109) hx hb dX5_look_77 (by decide) (fun h9 => absurd h9 h2) (fun _ => ?_)
      refine lv_aload_n hx hb dX5_look_80 rfl (lv_at hl 1 rfl) ?_
      refine lv_aload_n hx hb dX5_look_81 rfl (lv_at hl 1 rfl) ?_
      refine va_get (D := D) (ci := 5) (v := .int (x.2.2.1.1)) hx hb hG inX5 hown hK hP 0 rfl rfl 2 (by decide) (hG _ kw251) (fun _ h9 => h9) rfl dX5_look_82 ?_
      refine lv_iconst (v := 4) hx hb dX5_look_85 (by decide) ?_
      refine lv_icmp_ge (tgt := 98) hx hb dX5_look_86 (by decide) (fun h8 => ?_) (fun h8 => ?_)
      · refine lv_iconst (v := 4) hx hb dX5_look_98 (by decide) ?_
        refine pu (D := D) (ci := 5) (v := .int ((4 : Int32))) (ty := .int) (W' := (wM cI cJ ad (x.1, x.2.1, ((4 : Int32), x.2.2.1.2.1, x.2.2.1.2.2.1, x.2.2.1.2.2.2), x.2.2.2.1, x.2.2.2.2.1, x.2.2.2.2.2.1, x.2.2.2.2.2.2.1, x.2.2.2.2.2.2.2.1, x.2.2.2.2.2.2.2.2.1, x.2.2.2.2.2.2.2.2.2.1, x.2.2.2.2.2.2.2.2.2.2.1, x.2.2.2.2.2.2.2.2.2.2.2.1, x.2.2.2.2.2.2.2.2.2.2.2.2.1, ((x.2.1 (((2 : Int32) * a0)).toNatClampNeg), (x.2.1 ((((2 : Int32) * a0) + (1 : Int32))).toNatClampNeg)), x.2.2.2.2.2.2.2.2.2.2.2.2.2.2))) hx hb hG inX5 tyX5 tyokX5 nmX5 hown hK hP hD hS 0 rfl rfl 2 (by decide) (hG _ kw251) (fun _ h9 => h9) rfl (by decide +kernel) rfl rfl (Nat.le_of_ble_eq_true rfl) dX5_look_99 rfl (fun H locs hP hD hS => ?_)
        refine lv_aload_n hx hb dX5_look_102 rfl (lv_at hl 1 rfl) ?_
        refine va_get (D := D) (ci := 5) (v := .int ((4 : Int32))) hx hb hG inX5 hown hK hP 0 rfl rfl 2 (by decide) (hG _ kw251) (fun _ h9 => h9) rfl dX5_look_103 ?_
        refine lv_iconst (v := 1) hx hb dX5_look_106 (by decide) ?_
        refine lv_isub hx hb dX5_look_107 ?_
        refine tI (y := 3) (by decide) ?_
        refine lv_istore_n (lv' := [(2, .int ((3 : Int32))), (0, .ref (ad 0)), (1, .int (a0))]) hx hb dX5_look_108 rfl hl (by decide) rfl (fun ls hl => ?_)
        refine lv_iload_n hx hb dX5_look_109 rfl (lv_at hl 0 rfl) ?_
        refine lv_if_le (tgt := 161) hx hb dX5_look_110 (by decide) (fun h9 => absurd h9 (by decide)) (fun _ => ?_)
        refine lv_aload_n hx hb dX5_look_113 rfl (lv_at hl 1 rfl) ?_
        refine va_get (D := D) (ci := 5) (v := .ref (ad 2)) hx hb hG inX5 hown hK hP 0 rfl rfl 4 (by decide) (hG _ kw252) (fun _ h9 => h9) rfl dX5_look_114 ?_
        refine lv_iload_n hx hb dX5_look_117 rfl (lv_at hl 0 rfl) ?_
        refine lv_aload_n hx hb dX5_look_118 rfl (lv_at hl 1 rfl) ?_
        refine va_get (D := D) (ci := 5) (v := .ref (ad 2)) hx hb hG inX5 hown hK hP 0 rfl rfl 4 (by decide) (hG _ kw252) (fun _ h9 => h9) rfl dX5_look_119 ?_
        refine lv_iload_n hx hb dX5_look_122 rfl (lv_at hl 0 rfl) ?_
        refine lv_iconst (v := 1) hx hb dX5_look_123 (by decide) ?_
        refine lv_isub hx hb dX5_look_124 ?_
        refine tI (y := 2) (by decide) ?_
        refine gi (D := D) (j := 2) (f := x.2.2.1.2.1) hx hb hK hP 2 0 rfl rfl (inL (by decide)) (by decide) dX5_look_125 ?_
        refine si (D := D) (j := 3) (f := x.2.2.1.2.1) (x := (x.2.2.1.2.1 2)) (W' := (wM cI cJ ad (x.1, x.2.1, ((4 : Int32), (upd x.2.2.1.2.1 3 (x.2.2.1.2.1 2)), x.2.2.1.2.2.1, x.2.2.1.2.2.2), x.2.2.2.1, x.2.2.2.2.1, x.2.2.2.2.2.1, x.2.2.2.2.2.2.1, x.2.2.2.2.2.2.2.1, x.2.2.2.2.2.2.2.2.1, x.2.2.2.2.2.2.2.2.2.1, x.2.2.2.2.2.2.2.2.2.2.1, x.2.2.2.2.2.2.2.2.2.2.2.1, x.2.2.2.2.2.2.2.2.2.2.2.2.1, ((x.2.1 (((2 : Int32) * a0)).toNatClampNeg), (x.2.1 ((((2 : Int32) * a0) + (1 : Int32))).toNatClampNeg)), x.2.2.2.2.2.2.2.2.2.2.2.2.2.2))) hx hb hK hP hD hS 2 0 rfl rfl (inL (by decide)) (by decide) dX5_look_126 rfl (fun H locs hP hD hS => ?_)
        refine lv_aload_n hx hb dX5_look_127 rfl (lv_at hl 1 rfl) ?_
        refine va_get (D := D) (ci := 5) (v := .ref (ad 4)) hx hb hG inX5 hown hK hP 0 rfl rfl 6 (by decide) (hG _ kw259) (fun _ h9 => h9) rfl dX5_look_128 ?_
        refine lv_iload_n hx hb dX5_look_131 rfl (lv_at hl 0 rfl) ?_
        refine lv_aload_n hx hb dX5_look_132 rfl (lv_at hl 1 rfl) ?_
        refine va_get (D := D) (ci := 5) (v := .ref (ad 4)) hx hb hG inX5 hown hK hP 0 rfl rfl 6 (by decide) (hG _ kw259) (fun _ h9 => h9) rfl dX5_look_133 ?_
        refine lv_iload_n hx hb dX5_look_136 rfl (lv_at hl 0 rfl) ?_
        refine lv_iconst (v := 1) hx hb dX5_look_137 (by decide) ?_
        refine lv_isub hx hb dX5_look_138 ?_
        refine tI (y := 2) (by decide) ?_
        refine gl (D := D) (j := 2) (f := x.2.2.1.2.2.1) hx hb hK hP 4 1 rfl rfl (inL (by decide)) (by decide) dX5_look_139 ?_
        refine sl (D := D) (j := 3) (f := x.2.2.1.2.2.1) (x := (x.2.2.1.2.2.1 2)) (W' := (wM cI cJ ad (x.1, x.2.1, ((4 : Int32), (upd x.2.2.1.2.1 3 (x.2.2.1.2.1 2)), (vp_updL x.2.2.1.2.2.1 3 (x.2.2.1.2.2.1 2)), x.2.2.1.2.2.2), x.2.2.2.1, x.2.2.2.2.1, x.2.2.2.2.2.1, x.2.2.2.2.2.2.1, x.2.2.2.2.2.2.2.1, x.2.2.2.2.2.2.2.2.1, x.2.2.2.2.2.2.2.2.2.1, x.2.2.2.2.2.2.2.2.2.2.1, x.2.2.2.2.2.2.2.2.2.2.2.1, x.2.2.2.2.2.2.2.2.2.2.2.2.1, ((x.2.1 (((2 : Int32) * a0)).toNatClampNeg), (x.2.1 ((((2 : Int32) * a0) + (1 : Int32))).toNatClampNeg)), x.2.2.2.2.2.2.2.2.2.2.2.2.2.2))) hx hb hK hP hD hS 4 1 rfl rfl (inL (by decide)) (by decide) dX5_look_140 rfl (fun H locs hP hD hS => ?_)
        refine lv_aload_n hx hb dX5_look_141 rfl (lv_at hl 1 rfl) ?_
        refine va_get (D := D) (ci := 5) (v := .ref (ad 5)) hx hb hG inX5 hown hK hP 0 rfl rfl 7 (by decide) (hG _ kw261) (fun _ h9 => h9) rfl dX5_look_142 ?_
        refine lv_iload_n hx hb dX5_look_145 rfl (lv_at hl 0 rfl) ?_
        refine lv_aload_n hx hb dX5_look_146 rfl (lv_at hl 1 rfl) ?_
        refine va_get (D := D) (ci := 5) (v := .ref (ad 5)) hx hb hG inX5 hown hK hP 0 rfl rfl 7 (by decide) (hG _ kw261) (fun _ h9 => h9) rfl dX5_look_147 ?_
        refine lv_iload_n hx hb dX5_look_150 rfl (lv_at hl 0 rfl) ?_
        refine lv_iconst (v := 1) hx hb dX5_look_151 (by decide) ?_
        refine lv_isub hx hb dX5_look_152 ?_
        refine tI (y := 2) (by decide) ?_
        refine gl (D := D) (j := 2) (f := x.2.2.1.2.2.2) hx hb hK hP 5 1 rfl rfl (inL (by decide)) (by decide) dX5_look_153 ?_
        refine sl (D := D) (j := 3) (f := x.2.2.1.2.2.2) (x := (x.2.2.1.2.2.2 2)) (W' := (wM cI cJ ad (x.1, x.2.1, ((4 : Int32), (upd x.2.2.1.2.1 3 (x.2.2.1.2.1 2)), (vp_updL x.2.2.1.2.2.1 3 (x.2.2.1.2.2.1 2)), (vp_updL x.2.2.1.2.2.2 3 (x.2.2.1.2.2.2 2))), x.2.2.2.1, x.2.2.2.2.1, x.2.2.2.2.2.1, x.2.2.2.2.2.2.1, x.2.2.2.2.2.2.2.1, x.2.2.2.2.2.2.2.2.1, x.2.2.2.2.2.2.2.2.2.1, x.2.2.2.2.2.2.2.2.2.2.1, x.2.2.2.2.2.2.2.2.2.2.2.1, x.2.2.2.2.2.2.2.2.2.2.2.2.1, ((x.2.1 (((2 : Int32) * a0)).toNatClampNeg), (x.2.1 ((((2 : Int32) * a0) + (1 : Int32))).toNatClampNeg)), x.2.2.2.2.2.2.2.2.2.2.2.2.2.2))) hx hb hK hP hD hS 5 1 rfl rfl (inL (by decide)) (by decide) dX5_look_154 rfl (fun H locs hP hD hS => ?_)
        refine lv_iinc (k := 0) (v := (2 : Int32)) (lv' := [(2, .int ((2 : Int32))), (0, .ref (ad 0)), (1, .int (a0))]) hx hb dX5_look_155 hl rfl (by decide) (by decide) rfl (fun ls hl => ?_)
        refine lv_goto (tgt := 109) hx hb dX5_look_158 (by decide) ?_
        refine lv_iload_n hx hb dX5_look_109 rfl (lv_at hl 0 rfl) ?_
        refine lv_if_le (tgt := 161) hx hb dX5_look_110 (by decide) (fun h9 => absurd h9 (by decide)) (fun _ => ?_)
        refine lv_aload_n hx hb dX5_look_113 rfl (lv_at hl 1 rfl) ?_
        refine va_get (D := D) (ci := 5) (v := .ref (ad 2)) hx hb hG inX5 hown hK hP 0 rfl rfl 4 (by decide) (hG _ kw252) (fun _ h9 => h9) rfl dX5_look_114 ?_
        refine lv_iload_n hx hb dX5_look_117 rfl (lv_at hl 0 rfl) ?_
        refine lv_aload_n hx hb dX5_look_118 rfl (lv_at hl 1 rfl) ?_
        refine va_get (D := D) (ci := 5) (v := .ref (ad 2)) hx hb hG inX5 hown hK hP 0 rfl rfl 4 (by decide) (hG _ kw252) (fun _ h9 => h9) rfl dX5_look_119 ?_
        refine lv_iload_n hx hb dX5_look_122 rfl (lv_at hl 0 rfl) ?_
        refine lv_iconst (v := 1) hx hb dX5_look_123 (by decide) ?_
        refine lv_isub hx hb dX5_look_124 ?_
        refine tI (y := 1) (by decide) ?_
        refine gi (D := D) (j := 1) (f := (upd x.2.2.1.2.1 3 (x.2.2.1.2.1 2))) hx hb hK hP 2 0 rfl rfl (inL (by decide)) (by decide) dX5_look_125 ?_
        refine si (D := D) (j := 2) (f := (upd x.2.2.1.2.1 3 (x.2.2.1.2.1 2))) (x := ((upd x.2.2.1.2.1 3 (x.2.2.1.2.1 2)) 1)) (W' := (wM cI cJ ad (x.1, x.2.1, ((4 : Int32), (upd (upd x.2.2.1.2.1 3 (x.2.2.1.2.1 2)) 2 ((upd x.2.2.1.2.1 3 (x.2.2.1.2.1 2)) 1)), (vp_updL x.2.2.1.2.2.1 3 (x.2.2.1.2.2.1 2)), (vp_updL x.2.2.1.2.2.2 3 (x.2.2.1.2.2.2 2))), x.2.2.2.1, x.2.2.2.2.1, x.2.2.2.2.2.1, x.2.2.2.2.2.2.1, x.2.2.2.2.2.2.2.1, x.2.2.2.2.2.2.2.2.1, x.2.2.2.2.2.2.2.2.2.1, x.2.2.2.2.2.2.2.2.2.2.1, x.2.2.2.2.2.2.2.2.2.2.2.1, x.2.2.2.2.2.2.2.2.2.2.2.2.1, ((x.2.1 (((2 : Int32) * a0)).toNatClampNeg), (x.2.1 ((((2 : Int32) * a0) + (1 : Int32))).toNatClampNeg)), x.2.2.2.2.2.2.2.2.2.2.2.2.2.2))) hx hb hK hP hD hS 2 0 rfl rfl (inL (by decide)) (by decide) dX5_look_126 rfl (fun H locs hP hD hS => ?_)
        refine lv_aload_n hx hb dX5_look_127 rfl (lv_at hl 1 rfl) ?_
        refine va_get (D := D) (ci := 5) (v := .ref (ad 4)) hx hb hG inX5 hown hK hP 0 rfl rfl 6 (by decide) (hG _ kw259) (fun _ h9 => h9) rfl dX5_look_128 ?_
        refine lv_iload_n hx hb dX5_look_131 rfl (lv_at hl 0 rfl) ?_
        refine lv_aload_n hx hb dX5_look_132 rfl (lv_at hl 1 rfl) ?_
        refine va_get (D := D) (ci := 5) (v := .ref (ad 4)) hx hb hG inX5 hown hK hP 0 rfl rfl 6 (by decide) (hG _ kw259) (fun _ h9 => h9) rfl dX5_look_133 ?_
        refine lv_iload_n hx hb dX5_look_136 rfl (lv_at hl 0 rfl) ?_
        refine lv_iconst (v := 1) hx hb dX5_look_137 (by decide) ?_
        refine lv_isub hx hb dX5_look_138 ?_
        refine tI (y := 1) (by decide) ?_
        refine gl (D := D) (j := 1) (f := (vp_updL x.2.2.1.2.2.1 3 (x.2.2.1.2.2.1 2))) hx hb hK hP 4 1 rfl rfl (inL (by decide)) (by decide) dX5_look_139 ?_
        refine sl (D := D) (j := 2) (f := (vp_updL x.2.2.1.2.2.1 3 (x.2.2.1.2.2.1 2))) (x := ((vp_updL x.2.2.1.2.2.1 3 (x.2.2.1.2.2.1 2)) 1)) (W' := (wM cI cJ ad (x.1, x.2.1, ((4 : Int32), (upd (upd x.2.2.1.2.1 3 (x.2.2.1.2.1 2)) 2 ((upd x.2.2.1.2.1 3 (x.2.2.1.2.1 2)) 1)), (vp_updL (vp_updL x.2.2.1.2.2.1 3 (x.2.2.1.2.2.1 2)) 2 ((vp_updL x.2.2.1.2.2.1 3 (x.2.2.1.2.2.1 2)) 1)), (vp_updL x.2.2.1.2.2.2 3 (x.2.2.1.2.2.2 2))), x.2.2.2.1, x.2.2.2.2.1, x.2.2.2.2.2.1, x.2.2.2.2.2.2.1, x.2.2.2.2.2.2.2.1, x.2.2.2.2.2.2.2.2.1, x.2.2.2.2.2.2.2.2.2.1, x.2.2.2.2.2.2.2.2.2.2.1, x.2.2.2.2.2.2.2.2.2.2.2.1, x.2.2.2.2.2.2.2.2.2.2.2.2.1, ((x.2.1 (((2 : Int32) * a0)).toNatClampNeg), (x.2.1 ((((2 : Int32) * a0) + (1 : Int32))).toNatClampNeg)), x.2.2.2.2.2.2.2.2.2.2.2.2.2.2))) hx hb hK hP hD hS 4 1 rfl rfl (inL (by decide)) (by decide) dX5_look_140 rfl (fun H locs hP hD hS => ?_)
        refine lv_aload_n hx hb dX5_look_141 rfl (lv_at hl 1 rfl) ?_
        refine va_get (D := D) (ci := 5) (v := .ref (ad 5)) hx hb hG inX5 hown hK hP 0 rfl rfl 7 (by decide) (hG _ kw261) (fun _ h9 => h9) rfl dX5_look_142 ?_
        refine lv_iload_n hx hb dX5_look_145 rfl (lv_at hl 0 rfl) ?_
        refine lv_aload_n hx hb dX5_look_146 rfl (lv_at hl 1 rfl) ?_
        refine va_get (D := D) (ci := 5) (v := .ref (ad 5)) hx hb hG inX5 hown hK hP 0 rfl rfl 7 (by decide) (hG _ kw261) (fun _ h9 => h9) rfl dX5_look_147 ?_
        refine lv_iload_n hx hb dX5_look_150 rfl (lv_at hl 0 rfl) ?_
        refine lv_iconst (v := 1) hx hb dX5_look_151 (by decide) ?_
        refine lv_isub hx hb dX5_look_152 ?_
        refine tI (y := 1) (by decide) ?_
        refine gl (D := D) (j := 1) (f := (vp_updL x.2.2.1.2.2.2 3 (x.2.2.1.2.2.2 2))) hx hb hK hP 5 1 rfl rfl (inL (by decide)) (by decide) dX5_look_153 ?_
        refine sl (D := D) (j := 2) (f := (vp_updL x.2.2.1.2.2.2 3 (x.2.2.1.2.2.2 2))) (x := ((vp_updL x.2.2.1.2.2.2 3 (x.2.2.1.2.2.2 2)) 1)) (W' := (wM cI cJ ad (x.1, x.2.1, ((4 : Int32), (upd (upd x.2.2.1.2.1 3 (x.2.2.1.2.1 2)) 2 ((upd x.2.2.1.2.1 3 (x.2.2.1.2.1 2)) 1)), (vp_updL (vp_updL x.2.2.1.2.2.1 3 (x.2.2.1.2.2.1 2)) 2 ((vp_updL x.2.2.1.2.2.1 3 (x.2.2.1.2.2.1 2)) 1)), (vp_updL (vp_updL x.2.2.1.2.2.2 3 (x.2.2.1.2.2.2 2)) 2 ((vp_updL x.2.2.1.2.2.2 3 (x.2.2.1.2.2.2 2)) 1))), x.2.2.2.1, x.2.2.2.2.1, x.2.2.2.2.2.1, x.2.2.2.2.2.2.1, x.2.2.2.2.2.2.2.1, x.2.2.2.2.2.2.2.2.1, x.2.2.2.2.2.2.2.2.2.1, x.2.2.2.2.2.2.2.2.2.2.1, x.2.2.2.2.2.2.2.2.2.2.2.1, x.2.2.2.2.2.2.2.2.2.2.2.2.1, ((x.2.1 (((2 : Int32) * a0)).toNatClampNeg), (x.2.1 ((((2 : Int32) * a0) + (1 : Int32))).toNatClampNeg)), x.2.2.2.2.2.2.2.2.2.2.2.2.2.2))) hx hb hK hP hD hS 5 1 rfl rfl (inL (by decide)) (by decide) dX5_look_154 rfl (fun H locs hP hD hS => ?_)
        refine lv_iinc (k := 0) (v := (1 : Int32)) (lv' := [(2, .int ((1 : Int32))), (0, .ref (ad 0)), (1, .int (a0))]) hx hb dX5_look_155 hl rfl (by decide) (by decide) rfl (fun ls hl => ?_)
        refine lv_goto (tgt := 109) hx hb dX5_look_158 (by decide) ?_
        refine lv_iload_n hx hb dX5_look_109 rfl (lv_at hl 0 rfl) ?_
        refine lv_if_le (tgt := 161) hx hb dX5_look_110 (by decide) (fun h9 => absurd h9 (by decide)) (fun _ => ?_)
        refine lv_aload_n hx hb dX5_look_113 rfl (lv_at hl 1 rfl) ?_
        refine va_get (D := D) (ci := 5) (v := .ref (ad 2)) hx hb hG inX5 hown hK hP 0 rfl rfl 4 (by decide) (hG _ kw252) (fun _ h9 => h9) rfl dX5_look_114 ?_
        refine lv_iload_n hx hb dX5_look_117 rfl (lv_at hl 0 rfl) ?_
        refine lv_aload_n hx hb dX5_look_118 rfl (lv_at hl 1 rfl) ?_
        refine va_get (D := D) (ci := 5) (v := .ref (ad 2)) hx hb hG inX5 hown hK hP 0 rfl rfl 4 (by decide) (hG _ kw252) (fun _ h9 => h9) rfl dX5_look_119 ?_
        refine lv_iload_n hx hb dX5_look_122 rfl (lv_at hl 0 rfl) ?_
        refine lv_iconst (v := 1) hx hb dX5_look_123 (by decide) ?_
        refine lv_isub hx hb dX5_look_124 ?_
        refine tI (y := 0) (by decide) ?_
        refine gi (D := D) (j := 0) (f := (upd (upd x.2.2.1.2.1 3 (x.2.2.1.2.1 2)) 2 ((upd x.2.2.1.2.1 3 (x.2.2.1.2.1 2)) 1))) hx hb hK hP 2 0 rfl rfl (inL (by decide)) (by decide) dX5_look_125 ?_
        refine si (D := D) (j := 1) (f := (upd (upd x.2.2.1.2.1 3 (x.2.2.1.2.1 2)) 2 ((upd x.2.2.1.2.1 3 (x.2.2.1.2.1 2)) 1))) (x := ((upd (upd x.2.2.1.2.1 3 (x.2.2.1.2.1 2)) 2 ((upd x.2.2.1.2.1 3 (x.2.2.1.2.1 2)) 1)) 0)) (W' := (wM cI cJ ad (x.1, x.2.1, ((4 : Int32), (upd (upd (upd x.2.2.1.2.1 3 (x.2.2.1.2.1 2)) 2 ((upd x.2.2.1.2.1 3 (x.2.2.1.2.1 2)) 1)) 1 ((upd (upd x.2.2.1.2.1 3 (x.2.2.1.2.1 2)) 2 ((upd x.2.2.1.2.1 3 (x.2.2.1.2.1 2)) 1)) 0)), (vp_updL (vp_updL x.2.2.1.2.2.1 3 (x.2.2.1.2.2.1 2)) 2 ((vp_updL x.2.2.1.2.2.1 3 (x.2.2.1.2.2.1 2)) 1)), (vp_updL (vp_updL x.2.2.1.2.2.2 3 (x.2.2.1.2.2.2 2)) 2 ((vp_updL x.2.2.1.2.2.2 3 (x.2.2.1.2.2.2 2)) 1))), x.2.2.2.1, x.2.2.2.2.1, x.2.2.2.2.2.1, x.2.2.2.2.2.2.1, x.2.2.2.2.2.2.2.1, x.2.2.2.2.2.2.2.2.1, x.2.2.2.2.2.2.2.2.2.1, x.2.2.2.2.2.2.2.2.2.2.1, x.2.2.2.2.2.2.2.2.2.2.2.1, x.2.2.2.2.2.2.2.2.2.2.2.2.1, ((x.2.1 (((2 : Int32) * a0)).toNatClampNeg), (x.2.1 ((((2 : Int32) * a0) + (1 : Int32))).toNatClampNeg)), x.2.2.2.2.2.2.2.2.2.2.2.2.2.2))) hx hb hK hP hD hS 2 0 rfl rfl (inL (by decide)) (by decide) dX5_look_126 rfl (fun H locs hP hD hS => ?_)
        refine lv_aload_n hx hb dX5_look_127 rfl (lv_at hl 1 rfl) ?_
        refine va_get (D := D) (ci := 5) (v := .ref (ad 4)) hx hb hG inX5 hown hK hP 0 rfl rfl 6 (by decide) (hG _ kw259) (fun _ h9 => h9) rfl dX5_look_128 ?_
        refine lv_iload_n hx hb dX5_look_131 rfl (lv_at hl 0 rfl) ?_
        refine lv_aload_n hx hb dX5_look_132 rfl (lv_at hl 1 rfl) ?_
        refine va_get (D := D) (ci := 5) (v := .ref (ad 4)) hx hb hG inX5 hown hK hP 0 rfl rfl 6 (by decide) (hG _ kw259) (fun _ h9 => h9) rfl dX5_look_133 ?_
        refine lv_iload_n hx hb dX5_look_136 rfl (lv_at hl 0 rfl) ?_
        refine lv_iconst (v := 1) hx hb dX5_look_137 (by decide) ?_
        refine lv_isub hx hb dX5_look_138 ?_
        refine tI (y := 0) (by decide) ?_
        refine gl (D := D) (j := 0) (f := (vp_updL (vp_updL x.2.2.1.2.2.1 3 (x.2.2.1.2.2.1 2)) 2 ((vp_updL x.2.2.1.2.2.1 3 (x.2.2.1.2.2.1 2)) 1))) hx hb hK hP 4 1 rfl rfl (inL (by decide)) (by decide) dX5_look_139 ?_
        refine sl (D := D) (j := 1) (f := (vp_updL (vp_updL x.2.2.1.2.2.1 3 (x.2.2.1.2.2.1 2)) 2 ((vp_updL x.2.2.1.2.2.1 3 (x.2.2.1.2.2.1 2)) 1))) (x := ((vp_updL (vp_updL x.2.2.1.2.2.1 3 (x.2.2.1.2.2.1 2)) 2 ((vp_updL x.2.2.1.2.2.1 3 (x.2.2.1.2.2.1 2)) 1)) 0)) (W' := (wM cI cJ ad (x.1, x.2.1, ((4 : Int32), (upd (upd (upd x.2.2.1.2.1 3 (x.2.2.1.2.1 2)) 2 ((upd x.2.2.1.2.1 3 (x.2.2.1.2.1 2)) 1)) 1 ((upd (upd x.2.2.1.2.1 3 (x.2.2.1.2.1 2)) 2 ((upd x.2.2.1.2.1 3 (x.2.2.1.2.1 2)) 1)) 0)), (vp_updL (vp_updL (vp_updL x.2.2.1.2.2.1 3 (x.2.2.1.2.2.1 2)) 2 ((vp_updL x.2.2.1.2.2.1 3 (x.2.2.1.2.2.1 2)) 1)) 1 ((vp_updL (vp_updL x.2.2.1.2.2.1 3 (x.2.2.1.2.2.1 2)) 2 ((vp_updL x.2.2.1.2.2.1 3 (x.2.2.1.2.2.1 2)) 1)) 0)), (vp_updL (vp_updL x.2.2.1.2.2.2 3 (x.2.2.1.2.2.2 2)) 2 ((vp_updL x.2.2.1.2.2.2 3 (x.2.2.1.2.2.2 2)) 1))), x.2.2.2.1, x.2.2.2.2.1, x.2.2.2.2.2.1, x.2.2.2.2.2.2.1, x.2.2.2.2.2.2.2.1, x.2.2.2.2.2.2.2.2.1, x.2.2.2.2.2.2.2.2.2.1, x.2.2.2.2.2.2.2.2.2.2.1, x.2.2.2.2.2.2.2.2.2.2.2.1, x.2.2.2.2.2.2.2.2.2.2.2.2.1, ((x.2.1 (((2 : Int32) * a0)).toNatClampNeg), (x.2.1 ((((2 : Int32) * a0) + (1 : Int32))).toNatClampNeg)), x.2.2.2.2.2.2.2.2.2.2.2.2.2.2))) hx hb hK hP hD hS 4 1 rfl rfl (inL (by decide)) (by decide) dX5_look_140 rfl (fun H locs hP hD hS => ?_)
        refine lv_aload_n hx hb dX5_look_141 rfl (lv_at hl 1 rfl) ?_
        refine va_get (D := D) (ci := 5) (v := .ref (ad 5)) hx hb hG inX5 hown hK hP 0 rfl rfl 7 (by decide) (hG _ kw261) (fun _ h9 => h9) rfl dX5_look_142 ?_
        refine lv_iload_n hx hb dX5_look_145 rfl (lv_at hl 0 rfl) ?_
        refine lv_aload_n hx hb dX5_look_146 rfl (lv_at hl 1 rfl) ?_
        refine va_get (D := D) (ci := 5) (v := .ref (ad 5)) hx hb hG inX5 hown hK hP 0 rfl rfl 7 (by decide) (hG _ kw261) (fun _ h9 => h9) rfl dX5_look_147 ?_
        refine lv_iload_n hx hb dX5_look_150 rfl (lv_at hl 0 rfl) ?_
        refine lv_iconst (v := 1) hx hb dX5_look_151 (by decide) ?_
        refine lv_isub hx hb dX5_look_152 ?_
        refine tI (y := 0) (by decide) ?_
        refine gl (D := D) (j := 0) (f := (vp_updL (vp_updL x.2.2.1.2.2.2 3 (x.2.2.1.2.2.2 2)) 2 ((vp_updL x.2.2.1.2.2.2 3 (x.2.2.1.2.2.2 2)) 1))) hx hb hK hP 5 1 rfl rfl (inL (by decide)) (by decide) dX5_look_153 ?_
        refine sl (D := D) (j := 1) (f := (vp_updL (vp_updL x.2.2.1.2.2.2 3 (x.2.2.1.2.2.2 2)) 2 ((vp_updL x.2.2.1.2.2.2 3 (x.2.2.1.2.2.2 2)) 1))) (x := ((vp_updL (vp_updL x.2.2.1.2.2.2 3 (x.2.2.1.2.2.2 2)) 2 ((vp_updL x.2.2.1.2.2.2 3 (x.2.2.1.2.2.2 2)) 1)) 0)) (W' := (wM cI cJ ad (x.1, x.2.1, ((4 : Int32), (upd (upd (upd x.2.2.1.2.1 3 (x.2.2.1.2.1 2)) 2 ((upd x.2.2.1.2.1 3 (x.2.2.1.2.1 2)) 1)) 1 ((upd (upd x.2.2.1.2.1 3 (x.2.2.1.2.1 2)) 2 ((upd x.2.2.1.2.1 3 (x.2.2.1.2.1 2)) 1)) 0)), (vp_updL (vp_updL (vp_updL x.2.2.1.2.2.1 3 (x.2.2.1.2.2.1 2)) 2 ((vp_updL x.2.2.1.2.2.1 3 (x.2.2.1.2.2.1 2)) 1)) 1 ((vp_updL (vp_updL x.2.2.1.2.2.1 3 (x.2.2.1.2.2.1 2)) 2 ((vp_updL x.2.2.1.2.2.1 3 (x.2.2.1.2.2.1 2)) 1)) 0)), (vp_updL (vp_updL (vp_updL x.2.2.1.2.2.2 3 (x.2.2.1.2.2.2 2)) 2 ((vp_updL x.2.2.1.2.2.2 3 (x.2.2.1.2.2.2 2)) 1)) 1 ((vp_updL (vp_updL x.2.2.1.2.2.2 3 (x.2.2.1.2.2.2 2)) 2 ((vp_updL x.2.2.1.2.2.2 3 (x.2.2.1.2.2.2 2)) 1)) 0))), x.2.2.2.1, x.2.2.2.2.1, x.2.2.2.2.2.1, x.2.2.2.2.2.2.1, x.2.2.2.2.2.2.2.1, x.2.2.2.2.2.2.2.2.1, x.2.2.2.2.2.2.2.2.2.1, x.2.2.2.2.2.2.2.2.2.2.1, x.2.2.2.2.2.2.2.2.2.2.2.1, x.2.2.2.2.2.2.2.2.2.2.2.2.1, ((x.2.1 (((2 : Int32) * a0)).toNatClampNeg), (x.2.1 ((((2 : Int32) * a0) + (1 : Int32))).toNatClampNeg)), x.2.2.2.2.2.2.2.2.2.2.2.2.2.2))) hx hb hK hP hD hS 5 1 rfl rfl (inL (by decide)) (by decide) dX5_look_154 rfl (fun H locs hP hD hS => ?_)
        refine lv_iinc (k := 0) (v := (0 : Int32)) (lv' := [(2, .int ((0 : Int32))), (0, .ref (ad 0)), (1, .int (a0))]) hx hb dX5_look_155 hl rfl (by decide) (by decide) rfl (fun ls hl => ?_)
        refine lv_goto (tgt := 109) hx hb dX5_look_158 (by decide) ?_
        refine lv_iload_n hx hb dX5_look_109 rfl (lv_at hl 0 rfl) ?_
        refine lv_if_le (tgt := 161) hx hb dX5_look_110 (by decide) (fun _ => ?_) (fun h9 => absurd (by decide) h9)
        refine lv_aload_n hx hb dX5_look_161 rfl (lv_at hl 1 rfl) ?_
        refine va_get (D := D) (ci := 5) (v := .ref (ad 2)) hx hb hG inX5 hown hK hP 0 rfl rfl 4 (by decide) (hG _ kw252) (fun _ h9 => h9) rfl dX5_look_162 ?_
        refine lv_iconst (v := 0) hx hb dX5_look_165 (by decide) ?_
        refine lv_iload_n hx hb dX5_look_166 rfl (lv_at hl 2 rfl) ?_
        refine si (D := D) (j := 0) (f := (upd (upd (upd x.2.2.1.2.1 3 (x.2.2.1.2.1 2)) 2 ((upd x.2.2.1.2.1 3 (x.2.2.1.2.1 2)) 1)) 1 ((upd (upd x.2.2.1.2.1 3 (x.2.2.1.2.1 2)) 2 ((upd x.2.2.1.2.1 3 (x.2.2.1.2.1 2)) 1)) 0))) (x := a0) (W' := (wM cI cJ ad (x.1, x.2.1, ((4 : Int32), (upd (upd (upd (upd x.2.2.1.2.1 3 (x.2.2.1.2.1 2)) 2 ((upd x.2.2.1.2.1 3 (x.2.2.1.2.1 2)) 1)) 1 ((upd (upd x.2.2.1.2.1 3 (x.2.2.1.2.1 2)) 2 ((upd x.2.2.1.2.1 3 (x.2.2.1.2.1 2)) 1)) 0)) 0 a0), (vp_updL (vp_updL (vp_updL x.2.2.1.2.2.1 3 (x.2.2.1.2.2.1 2)) 2 ((vp_updL x.2.2.1.2.2.1 3 (x.2.2.1.2.2.1 2)) 1)) 1 ((vp_updL (vp_updL x.2.2.1.2.2.1 3 (x.2.2.1.2.2.1 2)) 2 ((vp_updL x.2.2.1.2.2.1 3 (x.2.2.1.2.2.1 2)) 1)) 0)), (vp_updL (vp_updL (vp_updL x.2.2.1.2.2.2 3 (x.2.2.1.2.2.2 2)) 2 ((vp_updL x.2.2.1.2.2.2 3 (x.2.2.1.2.2.2 2)) 1)) 1 ((vp_updL (vp_updL x.2.2.1.2.2.2 3 (x.2.2.1.2.2.2 2)) 2 ((vp_updL x.2.2.1.2.2.2 3 (x.2.2.1.2.2.2 2)) 1)) 0))), x.2.2.2.1, x.2.2.2.2.1, x.2.2.2.2.2.1, x.2.2.2.2.2.2.1, x.2.2.2.2.2.2.2.1, x.2.2.2.2.2.2.2.2.1, x.2.2.2.2.2.2.2.2.2.1, x.2.2.2.2.2.2.2.2.2.2.1, x.2.2.2.2.2.2.2.2.2.2.2.1, x.2.2.2.2.2.2.2.2.2.2.2.2.1, ((x.2.1 (((2 : Int32) * a0)).toNatClampNeg), (x.2.1 ((((2 : Int32) * a0) + (1 : Int32))).toNatClampNeg)), x.2.2.2.2.2.2.2.2.2.2.2.2.2.2))) hx hb hK hP hD hS 2 0 rfl rfl (inL (by decide)) (by decide) dX5_look_167 rfl (fun H locs hP hD hS => ?_)
        refine lv_aload_n hx hb dX5_look_168 rfl (lv_at hl 1 rfl) ?_
        refine va_get (D := D) (ci := 5) (v := .ref (ad 4)) hx hb hG inX5 hown hK hP 0 rfl rfl 6 (by decide) (hG _ kw259) (fun _ h9 => h9) rfl dX5_look_169 ?_
        refine lv_iconst (v := 0) hx hb dX5_look_172 (by decide) ?_
        refine lv_aload_n hx hb dX5_look_173 rfl (lv_at hl 1 rfl) ?_
        refine va_get (D := D) (ci := 5) (v := .long ((x.2.1 (((2 : Int32) * a0)).toNatClampNeg))) hx hb hG inX5 hown hK hP 0 rfl rfl 34 (by decide) (hG _ kw260) (fun _ h9 => h9) rfl dX5_look_174 ?_
        refine sl (D := D) (j := 0) (f := (vp_updL (vp_updL (vp_updL x.2.2.1.2.2.1 3 (x.2.2.1.2.2.1 2)) 2 ((vp_updL x.2.2.1.2.2.1 3 (x.2.2.1.2.2.1 2)) 1)) 1 ((vp_updL (vp_updL x.2.2.1.2.2.1 3 (x.2.2.1.2.2.1 2)) 2 ((vp_updL x.2.2.1.2.2.1 3 (x.2.2.1.2.2.1 2)) 1)) 0))) (x := (x.2.1 (((2 : Int32) * a0)).toNatClampNeg)) (W' := (wM cI cJ ad (x.1, x.2.1, ((4 : Int32), (upd (upd (upd (upd x.2.2.1.2.1 3 (x.2.2.1.2.1 2)) 2 ((upd x.2.2.1.2.1 3 (x.2.2.1.2.1 2)) 1)) 1 ((upd (upd x.2.2.1.2.1 3 (x.2.2.1.2.1 2)) 2 ((upd x.2.2.1.2.1 3 (x.2.2.1.2.1 2)) 1)) 0)) 0 a0), (vp_updL (vp_updL (vp_updL (vp_updL x.2.2.1.2.2.1 3 (x.2.2.1.2.2.1 2)) 2 ((vp_updL x.2.2.1.2.2.1 3 (x.2.2.1.2.2.1 2)) 1)) 1 ((vp_updL (vp_updL x.2.2.1.2.2.1 3 (x.2.2.1.2.2.1 2)) 2 ((vp_updL x.2.2.1.2.2.1 3 (x.2.2.1.2.2.1 2)) 1)) 0)) 0 (x.2.1 (((2 : Int32) * a0)).toNatClampNeg)), (vp_updL (vp_updL (vp_updL x.2.2.1.2.2.2 3 (x.2.2.1.2.2.2 2)) 2 ((vp_updL x.2.2.1.2.2.2 3 (x.2.2.1.2.2.2 2)) 1)) 1 ((vp_updL (vp_updL x.2.2.1.2.2.2 3 (x.2.2.1.2.2.2 2)) 2 ((vp_updL x.2.2.1.2.2.2 3 (x.2.2.1.2.2.2 2)) 1)) 0))), x.2.2.2.1, x.2.2.2.2.1, x.2.2.2.2.2.1, x.2.2.2.2.2.2.1, x.2.2.2.2.2.2.2.1, x.2.2.2.2.2.2.2.2.1, x.2.2.2.2.2.2.2.2.2.1, x.2.2.2.2.2.2.2.2.2.2.1, x.2.2.2.2.2.2.2.2.2.2.2.1, x.2.2.2.2.2.2.2.2.2.2.2.2.1, ((x.2.1 (((2 : Int32) * a0)).toNatClampNeg), (x.2.1 ((((2 : Int32) * a0) + (1 : Int32))).toNatClampNeg)), x.2.2.2.2.2.2.2.2.2.2.2.2.2.2))) hx hb hK hP hD hS 4 1 rfl rfl (inL (by decide)) (by decide) dX5_look_177 rfl (fun H locs hP hD hS => ?_)
        refine lv_aload_n hx hb dX5_look_178 rfl (lv_at hl 1 rfl) ?_
        refine va_get (D := D) (ci := 5) (v := .ref (ad 5)) hx hb hG inX5 hown hK hP 0 rfl rfl 7 (by decide) (hG _ kw261) (fun _ h9 => h9) rfl dX5_look_179 ?_
        refine lv_iconst (v := 0) hx hb dX5_look_182 (by decide) ?_
        refine lv_aload_n hx hb dX5_look_183 rfl (lv_at hl 1 rfl) ?_
        refine va_get (D := D) (ci := 5) (v := .long ((x.2.1 ((((2 : Int32) * a0) + (1 : Int32))).toNatClampNeg))) hx hb hG inX5 hown hK hP 0 rfl rfl 35 (by decide) (hG _ kw262) (fun _ h9 => h9) rfl dX5_look_184 ?_
        refine sl (D := D) (j := 0) (f := (vp_updL (vp_updL (vp_updL x.2.2.1.2.2.2 3 (x.2.2.1.2.2.2 2)) 2 ((vp_updL x.2.2.1.2.2.2 3 (x.2.2.1.2.2.2 2)) 1)) 1 ((vp_updL (vp_updL x.2.2.1.2.2.2 3 (x.2.2.1.2.2.2 2)) 2 ((vp_updL x.2.2.1.2.2.2 3 (x.2.2.1.2.2.2 2)) 1)) 0))) (x := (x.2.1 ((((2 : Int32) * a0) + (1 : Int32))).toNatClampNeg)) (W' := (wM cI cJ ad (x.1, x.2.1, ((4 : Int32), (upd (upd (upd (upd x.2.2.1.2.1 3 (x.2.2.1.2.1 2)) 2 ((upd x.2.2.1.2.1 3 (x.2.2.1.2.1 2)) 1)) 1 ((upd (upd x.2.2.1.2.1 3 (x.2.2.1.2.1 2)) 2 ((upd x.2.2.1.2.1 3 (x.2.2.1.2.1 2)) 1)) 0)) 0 a0), (vp_updL (vp_updL (vp_updL (vp_updL x.2.2.1.2.2.1 3 (x.2.2.1.2.2.1 2)) 2 ((vp_updL x.2.2.1.2.2.1 3 (x.2.2.1.2.2.1 2)) 1)) 1 ((vp_updL (vp_updL x.2.2.1.2.2.1 3 (x.2.2.1.2.2.1 2)) 2 ((vp_updL x.2.2.1.2.2.1 3 (x.2.2.1.2.2.1 2)) 1)) 0)) 0 (x.2.1 (((2 : Int32) * a0)).toNatClampNeg)), (vp_updL (vp_updL (vp_updL (vp_updL x.2.2.1.2.2.2 3 (x.2.2.1.2.2.2 2)) 2 ((vp_updL x.2.2.1.2.2.2 3 (x.2.2.1.2.2.2 2)) 1)) 1 ((vp_updL (vp_updL x.2.2.1.2.2.2 3 (x.2.2.1.2.2.2 2)) 2 ((vp_updL x.2.2.1.2.2.2 3 (x.2.2.1.2.2.2 2)) 1)) 0)) 0 (x.2.1 ((((2 : Int32) * a0) + (1 : Int32))).toNatClampNeg))), x.2.2.2.1, x.2.2.2.2.1, x.2.2.2.2.2.1, x.2.2.2.2.2.2.1, x.2.2.2.2.2.2.2.1, x.2.2.2.2.2.2.2.2.1, x.2.2.2.2.2.2.2.2.2.1, x.2.2.2.2.2.2.2.2.2.2.1, x.2.2.2.2.2.2.2.2.2.2.2.1, x.2.2.2.2.2.2.2.2.2.2.2.2.1, ((x.2.1 (((2 : Int32) * a0)).toNatClampNeg), (x.2.1 ((((2 : Int32) * a0) + (1 : Int32))).toNatClampNeg)), x.2.2.2.2.2.2.2.2.2.2.2.2.2.2))) hx hb hK hP hD hS 5 1 rfl rfl (inL (by decide)) (by decide) dX5_look_187 rfl (fun H locs hP hD hS => ?_)
        exact retv (u := (x.1, x.2.1, ((4 : Int32), (upd (upd (upd (upd x.2.2.1.2.1 3 (x.2.2.1.2.1 2)) 2 ((upd x.2.2.1.2.1 3 (x.2.2.1.2.1 2)) 1)) 1 ((upd (upd x.2.2.1.2.1 3 (x.2.2.1.2.1 2)) 2 ((upd x.2.2.1.2.1 3 (x.2.2.1.2.1 2)) 1)) 0)) 0 a0), (vp_updL (vp_updL (vp_updL (vp_updL x.2.2.1.2.2.1 3 (x.2.2.1.2.2.1 2)) 2 ((vp_updL x.2.2.1.2.2.1 3 (x.2.2.1.2.2.1 2)) 1)) 1 ((vp_updL (vp_updL x.2.2.1.2.2.1 3 (x.2.2.1.2.2.1 2)) 2 ((vp_updL x.2.2.1.2.2.1 3 (x.2.2.1.2.2.1 2)) 1)) 0)) 0 (x.2.1 (((2 : Int32) * a0)).toNatClampNeg)), (vp_updL (vp_updL (vp_updL (vp_updL x.2.2.1.2.2.2 3 (x.2.2.1.2.2.2 2)) 2 ((vp_updL x.2.2.1.2.2.2 3 (x.2.2.1.2.2.2 2)) 1)) 1 ((vp_updL (vp_updL x.2.2.1.2.2.2 3 (x.2.2.1.2.2.2 2)) 2 ((vp_updL x.2.2.1.2.2.2 3 (x.2.2.1.2.2.2 2)) 1)) 0)) 0 (x.2.1 ((((2 : Int32) * a0) + (1 : Int32))).toNatClampNeg))), x.2.2.2.1, x.2.2.2.2.1, x.2.2.2.2.2.1, x.2.2.2.2.2.2.1, x.2.2.2.2.2.2.2.1, x.2.2.2.2.2.2.2.2.1, x.2.2.2.2.2.2.2.2.2.1, x.2.2.2.2.2.2.2.2.2.2.1, x.2.2.2.2.2.2.2.2.2.2.2.1, x.2.2.2.2.2.2.2.2.2.2.2.2.1, ((x.2.1 (((2 : Int32) * a0)).toNatClampNeg), (x.2.1 ((((2 : Int32) * a0) + (1 : Int32))).toNatClampNeg)), x.2.2.2.2.2.2.2.2.2.2.2.2.2.2)) hx hb hr hlocks hK hP hD hS dX5_look_188 (by unfold fnX5_look; rw [← q1]; (try dsimp only); rw [if_neg h2]; rw [if_neg h7]; rw [if_pos h8]; (try exact rfl))
      · refine lv_aload_n hx hb dX5_look_89 rfl (lv_at hl 1 rfl) ?_
        refine va_get (D := D) (ci := 5) (v := .int (x.2.2.1.1)) hx hb hG inX5 hown hK hP 0 rfl rfl 2 (by decide) (hG _ kw251) (fun _ h9 => h9) rfl dX5_look_90 ?_
        refine lv_iconst (v := 1) hx hb dX5_look_93 (by decide) ?_
        refine lv_iadd hx hb dX5_look_94 ?_
        refine lv_goto (tgt := 99) hx hb dX5_look_95 (by decide) ?_
        refine pu (D := D) (ci := 5) (v := .int ((x.2.2.1.1 + (1 : Int32)))) (ty := .int) (W' := (wM cI cJ ad (x.1, x.2.1, ((x.2.2.1.1 + (1 : Int32)), x.2.2.1.2.1, x.2.2.1.2.2.1, x.2.2.1.2.2.2), x.2.2.2.1, x.2.2.2.2.1, x.2.2.2.2.2.1, x.2.2.2.2.2.2.1, x.2.2.2.2.2.2.2.1, x.2.2.2.2.2.2.2.2.1, x.2.2.2.2.2.2.2.2.2.1, x.2.2.2.2.2.2.2.2.2.2.1, x.2.2.2.2.2.2.2.2.2.2.2.1, x.2.2.2.2.2.2.2.2.2.2.2.2.1, ((x.2.1 (((2 : Int32) * a0)).toNatClampNeg), (x.2.1 ((((2 : Int32) * a0) + (1 : Int32))).toNatClampNeg)), x.2.2.2.2.2.2.2.2.2.2.2.2.2.2))) hx hb hG inX5 tyX5 tyokX5 nmX5 hown hK hP hD hS 0 rfl rfl 2 (by decide) (hG _ kw251) (fun _ h9 => h9) rfl (by decide +kernel) rfl rfl (Nat.le_of_ble_eq_true rfl) dX5_look_99 rfl (fun H locs hP hD hS => ?_)
        refine lv_aload_n hx hb dX5_look_102 rfl (lv_at hl 1 rfl) ?_
        refine va_get (D := D) (ci := 5) (v := .int ((x.2.2.1.1 + (1 : Int32)))) hx hb hG inX5 hown hK hP 0 rfl rfl 2 (by decide) (hG _ kw251) (fun _ h9 => h9) rfl dX5_look_103 ?_
        refine lv_iconst (v := 1) hx hb dX5_look_106 (by decide) ?_
        refine lv_isub hx hb dX5_look_107 ?_
        refine lv_istore_n (lv' := [(2, .int (((x.2.2.1.1 + (1 : Int32)) - (1 : Int32)))), (0, .ref (ad 0)), (1, .int (a0))]) hx hb dX5_look_108 rfl hl (by decide) rfl (fun ls hl => ?_)
        by_cases h9 : ((x.2.2.1.1 + (1 : Int32)) - (1 : Int32)) = (0 : Int32)
        · have hl : lv_has ls 3 [(2, .int ((0 : Int32))), (0, .ref (ad 0)), (1, .int (a0))] := lvc h9 (lv_sub hl [0, 1, 2] rfl)
          refine lv_iload_n hx hb dX5_look_109 rfl (lv_at hl 0 rfl) ?_
          refine lv_if_le (tgt := 161) hx hb dX5_look_110 (by decide) (fun _ => ?_) (fun h9 => absurd (by decide) h9)
          refine lv_aload_n hx hb dX5_look_161 rfl (lv_at hl 1 rfl) ?_
          refine va_get (D := D) (ci := 5) (v := .ref (ad 2)) hx hb hG inX5 hown hK hP 0 rfl rfl 4 (by decide) (hG _ kw252) (fun _ h9 => h9) rfl dX5_look_162 ?_
          refine lv_iconst (v := 0) hx hb dX5_look_165 (by decide) ?_
          refine lv_iload_n hx hb dX5_look_166 rfl (lv_at hl 2 rfl) ?_
          refine si (D := D) (j := 0) (f := x.2.2.1.2.1) (x := a0) (W' := (wM cI cJ ad (x.1, x.2.1, ((x.2.2.1.1 + (1 : Int32)), (upd x.2.2.1.2.1 0 a0), x.2.2.1.2.2.1, x.2.2.1.2.2.2), x.2.2.2.1, x.2.2.2.2.1, x.2.2.2.2.2.1, x.2.2.2.2.2.2.1, x.2.2.2.2.2.2.2.1, x.2.2.2.2.2.2.2.2.1, x.2.2.2.2.2.2.2.2.2.1, x.2.2.2.2.2.2.2.2.2.2.1, x.2.2.2.2.2.2.2.2.2.2.2.1, x.2.2.2.2.2.2.2.2.2.2.2.2.1, ((x.2.1 (((2 : Int32) * a0)).toNatClampNeg), (x.2.1 ((((2 : Int32) * a0) + (1 : Int32))).toNatClampNeg)), x.2.2.2.2.2.2.2.2.2.2.2.2.2.2))) hx hb hK hP hD hS 2 0 rfl rfl (inL (by decide)) (by decide) dX5_look_167 rfl (fun H locs hP hD hS => ?_)
          refine lv_aload_n hx hb dX5_look_168 rfl (lv_at hl 1 rfl) ?_
          refine va_get (D := D) (ci := 5) (v := .ref (ad 4)) hx hb hG inX5 hown hK hP 0 rfl rfl 6 (by decide) (hG _ kw259) (fun _ h9 => h9) rfl dX5_look_169 ?_
          refine lv_iconst (v := 0) hx hb dX5_look_172 (by decide) ?_
          refine lv_aload_n hx hb dX5_look_173 rfl (lv_at hl 1 rfl) ?_
          refine va_get (D := D) (ci := 5) (v := .long ((x.2.1 (((2 : Int32) * a0)).toNatClampNeg))) hx hb hG inX5 hown hK hP 0 rfl rfl 34 (by decide) (hG _ kw260) (fun _ h9 => h9) rfl dX5_look_174 ?_
          refine sl (D := D) (j := 0) (f := x.2.2.1.2.2.1) (x := (x.2.1 (((2 : Int32) * a0)).toNatClampNeg)) (W' := (wM cI cJ ad (x.1, x.2.1, ((x.2.2.1.1 + (1 : Int32)), (upd x.2.2.1.2.1 0 a0), (vp_updL x.2.2.1.2.2.1 0 (x.2.1 (((2 : Int32) * a0)).toNatClampNeg)), x.2.2.1.2.2.2), x.2.2.2.1, x.2.2.2.2.1, x.2.2.2.2.2.1, x.2.2.2.2.2.2.1, x.2.2.2.2.2.2.2.1, x.2.2.2.2.2.2.2.2.1, x.2.2.2.2.2.2.2.2.2.1, x.2.2.2.2.2.2.2.2.2.2.1, x.2.2.2.2.2.2.2.2.2.2.2.1, x.2.2.2.2.2.2.2.2.2.2.2.2.1, ((x.2.1 (((2 : Int32) * a0)).toNatClampNeg), (x.2.1 ((((2 : Int32) * a0) + (1 : Int32))).toNatClampNeg)), x.2.2.2.2.2.2.2.2.2.2.2.2.2.2))) hx hb hK hP hD hS 4 1 rfl rfl (inL (by decide)) (by decide) dX5_look_177 rfl (fun H locs hP hD hS => ?_)
          refine lv_aload_n hx hb dX5_look_178 rfl (lv_at hl 1 rfl) ?_
          refine va_get (D := D) (ci := 5) (v := .ref (ad 5)) hx hb hG inX5 hown hK hP 0 rfl rfl 7 (by decide) (hG _ kw261) (fun _ h9 => h9) rfl dX5_look_179 ?_
          refine lv_iconst (v := 0) hx hb dX5_look_182 (by decide) ?_
          refine lv_aload_n hx hb dX5_look_183 rfl (lv_at hl 1 rfl) ?_
          refine va_get (D := D) (ci := 5) (v := .long ((x.2.1 ((((2 : Int32) * a0) + (1 : Int32))).toNatClampNeg))) hx hb hG inX5 hown hK hP 0 rfl rfl 35 (by decide) (hG _ kw262) (fun _ h9 => h9) rfl dX5_look_184 ?_
          refine sl (D := D) (j := 0) (f := x.2.2.1.2.2.2) (x := (x.2.1 ((((2 : Int32) * a0) + (1 : Int32))).toNatClampNeg)) (W' := (wM cI cJ ad (x.1, x.2.1, ((x.2.2.1.1 + (1 : Int32)), (upd x.2.2.1.2.1 0 a0), (vp_updL x.2.2.1.2.2.1 0 (x.2.1 (((2 : Int32) * a0)).toNatClampNeg)), (vp_updL x.2.2.1.2.2.2 0 (x.2.1 ((((2 : Int32) * a0) + (1 : Int32))).toNatClampNeg))), x.2.2.2.1, x.2.2.2.2.1, x.2.2.2.2.2.1, x.2.2.2.2.2.2.1, x.2.2.2.2.2.2.2.1, x.2.2.2.2.2.2.2.2.1, x.2.2.2.2.2.2.2.2.2.1, x.2.2.2.2.2.2.2.2.2.2.1, x.2.2.2.2.2.2.2.2.2.2.2.1, x.2.2.2.2.2.2.2.2.2.2.2.2.1, ((x.2.1 (((2 : Int32) * a0)).toNatClampNeg), (x.2.1 ((((2 : Int32) * a0) + (1 : Int32))).toNatClampNeg)), x.2.2.2.2.2.2.2.2.2.2.2.2.2.2))) hx hb hK hP hD hS 5 1 rfl rfl (inL (by decide)) (by decide) dX5_look_187 rfl (fun H locs hP hD hS => ?_)
          exact retv (u := (x.1, x.2.1, ((x.2.2.1.1 + (1 : Int32)), (upd x.2.2.1.2.1 0 a0), (vp_updL x.2.2.1.2.2.1 0 (x.2.1 (((2 : Int32) * a0)).toNatClampNeg)), (vp_updL x.2.2.1.2.2.2 0 (x.2.1 ((((2 : Int32) * a0) + (1 : Int32))).toNatClampNeg))), x.2.2.2.1, x.2.2.2.2.1, x.2.2.2.2.2.1, x.2.2.2.2.2.2.1, x.2.2.2.2.2.2.2.1, x.2.2.2.2.2.2.2.2.1, x.2.2.2.2.2.2.2.2.2.1, x.2.2.2.2.2.2.2.2.2.2.1, x.2.2.2.2.2.2.2.2.2.2.2.1, x.2.2.2.2.2.2.2.2.2.2.2.2.1, ((x.2.1 (((2 : Int32) * a0)).toNatClampNeg), (x.2.1 ((((2 : Int32) * a0) + (1 : Int32))).toNatClampNeg)), x.2.2.2.2.2.2.2.2.2.2.2.2.2.2)) hx hb hr hlocks hK hP hD hS dX5_look_188 (by unfold fnX5_look; rw [← q1]; (try dsimp only); rw [if_neg h2]; rw [if_neg h7]; rw [if_neg h8]; rw [if_pos h9]; (try exact rfl))
        by_cases h10 : ((x.2.2.1.1 + (1 : Int32)) - (1 : Int32)) = (1 : Int32)
        · have hl : lv_has ls 3 [(2, .int ((1 : Int32))), (0, .ref (ad 0)), (1, .int (a0))] := lvc h10 (lv_sub hl [0, 1, 2] rfl)
          refine lv_iload_n hx hb dX5_look_109 rfl (lv_at hl 0 rfl) ?_
          refine lv_if_le (tgt := 161) hx hb dX5_look_110 (by decide) (fun h9 => absurd h9 (by decide)) (fun _ => ?_)
          refine lv_aload_n hx hb dX5_look_113 rfl (lv_at hl 1 rfl) ?_
          refine va_get (D := D) (ci := 5) (v := .ref (ad 2)) hx hb hG inX5 hown hK hP 0 rfl rfl 4 (by decide) (hG _ kw252) (fun _ h9 => h9) rfl dX5_look_114 ?_
          refine lv_iload_n hx hb dX5_look_117 rfl (lv_at hl 0 rfl) ?_
          refine lv_aload_n hx hb dX5_look_118 rfl (lv_at hl 1 rfl) ?_
          refine va_get (D := D) (ci := 5) (v := .ref (ad 2)) hx hb hG inX5 hown hK hP 0 rfl rfl 4 (by decide) (hG _ kw252) (fun _ h9 => h9) rfl dX5_look_119 ?_
          refine lv_iload_n hx hb dX5_look_122 rfl (lv_at hl 0 rfl) ?_
          refine lv_iconst (v := 1) hx hb dX5_look_123 (by decide) ?_
          refine lv_isub hx hb dX5_look_124 ?_
          refine tI (y := 0) (by decide) ?_
          refine gi (D := D) (j := 0) (f := x.2.2.1.2.1) hx hb hK hP 2 0 rfl rfl (inL (by decide)) (by decide) dX5_look_125 ?_
          refine si (D := D) (j := 1) (f := x.2.2.1.2.1) (x := (x.2.2.1.2.1 0)) (W' := (wM cI cJ ad (x.1, x.2.1, ((x.2.2.1.1 + (1 : Int32)), (upd x.2.2.1.2.1 1 (x.2.2.1.2.1 0)), x.2.2.1.2.2.1, x.2.2.1.2.2.2), x.2.2.2.1, x.2.2.2.2.1, x.2.2.2.2.2.1, x.2.2.2.2.2.2.1, x.2.2.2.2.2.2.2.1, x.2.2.2.2.2.2.2.2.1, x.2.2.2.2.2.2.2.2.2.1, x.2.2.2.2.2.2.2.2.2.2.1, x.2.2.2.2.2.2.2.2.2.2.2.1, x.2.2.2.2.2.2.2.2.2.2.2.2.1, ((x.2.1 (((2 : Int32) * a0)).toNatClampNeg), (x.2.1 ((((2 : Int32) * a0) + (1 : Int32))).toNatClampNeg)), x.2.2.2.2.2.2.2.2.2.2.2.2.2.2))) hx hb hK hP hD hS 2 0 rfl rfl (inL (by decide)) (by decide) dX5_look_126 rfl (fun H locs hP hD hS => ?_)
          refine lv_aload_n hx hb dX5_look_127 rfl (lv_at hl 1 rfl) ?_
          refine va_get (D := D) (ci := 5) (v := .ref (ad 4)) hx hb hG inX5 hown hK hP 0 rfl rfl 6 (by decide) (hG _ kw259) (fun _ h9 => h9) rfl dX5_look_128 ?_
          refine lv_iload_n hx hb dX5_look_131 rfl (lv_at hl 0 rfl) ?_
          refine lv_aload_n hx hb dX5_look_132 rfl (lv_at hl 1 rfl) ?_
          refine va_get (D := D) (ci := 5) (v := .ref (ad 4)) hx hb hG inX5 hown hK hP 0 rfl rfl 6 (by decide) (hG _ kw259) (fun _ h9 => h9) rfl dX5_look_133 ?_
          refine lv_iload_n hx hb dX5_look_136 rfl (lv_at hl 0 rfl) ?_
          refine lv_iconst (v := 1) hx hb dX5_look_137 (by decide) ?_
          refine lv_isub hx hb dX5_look_138 ?_
          refine tI (y := 0) (by decide) ?_
          refine gl (D := D) (j := 0) (f := x.2.2.1.2.2.1) hx hb hK hP 4 1 rfl rfl (inL (by decide)) (by decide) dX5_look_139 ?_
          refine sl (D := D) (j := 1) (f := x.2.2.1.2.2.1) (x := (x.2.2.1.2.2.1 0)) (W' := (wM cI cJ ad (x.1, x.2.1, ((x.2.2.1.1 + (1 : Int32)), (upd x.2.2.1.2.1 1 (x.2.2.1.2.1 0)), (vp_updL x.2.2.1.2.2.1 1 (x.2.2.1.2.2.1 0)), x.2.2.1.2.2.2), x.2.2.2.1, x.2.2.2.2.1, x.2.2.2.2.2.1, x.2.2.2.2.2.2.1, x.2.2.2.2.2.2.2.1, x.2.2.2.2.2.2.2.2.1, x.2.2.2.2.2.2.2.2.2.1, x.2.2.2.2.2.2.2.2.2.2.1, x.2.2.2.2.2.2.2.2.2.2.2.1, x.2.2.2.2.2.2.2.2.2.2.2.2.1, ((x.2.1 (((2 : Int32) * a0)).toNatClampNeg), (x.2.1 ((((2 : Int32) * a0) + (1 : Int32))).toNatClampNeg)), x.2.2.2.2.2.2.2.2.2.2.2.2.2.2))) hx hb hK hP hD hS 4 1 rfl rfl (inL (by decide)) (by decide) dX5_look_140 rfl (fun H locs hP hD hS => ?_)
          refine lv_aload_n hx hb dX5_look_141 rfl (lv_at hl 1 rfl) ?_
          refine va_get (D := D) (ci := 5) (v := .ref (ad 5)) hx hb hG inX5 hown hK hP 0 rfl rfl 7 (by decide) (hG _ kw261) (fun _ h9 => h9) rfl dX5_look_142 ?_
          refine lv_iload_n hx hb dX5_look_145 rfl (lv_at hl 0 rfl) ?_
          refine lv_aload_n hx hb dX5_look_146 rfl (lv_at hl 1 rfl) ?_
          refine va_get (D := D) (ci := 5) (v := .ref (ad 5)) hx hb hG inX5 hown hK hP 0 rfl rfl 7 (by decide) (hG _ kw261) (fun _ h9 => h9) rfl dX5_look_147 ?_
          refine lv_iload_n hx hb dX5_look_150 rfl (lv_at hl 0 rfl) ?_
          refine lv_iconst (v := 1) hx hb dX5_look_151 (by decide) ?_
          refine lv_isub hx hb dX5_look_152 ?_
          refine tI (y := 0) (by decide) ?_
          refine gl (D := D) (j := 0) (f := x.2.2.1.2.2.2) hx hb hK hP 5 1 rfl rfl (inL (by decide)) (by decide) dX5_look_153 ?_
          refine sl (D := D) (j := 1) (f := x.2.2.1.2.2.2) (x := (x.2.2.1.2.2.2 0)) (W' := (wM cI cJ ad (x.1, x.2.1, ((x.2.2.1.1 + (1 : Int32)), (upd x.2.2.1.2.1 1 (x.2.2.1.2.1 0)), (vp_updL x.2.2.1.2.2.1 1 (x.2.2.1.2.2.1 0)), (vp_updL x.2.2.1.2.2.2 1 (x.2.2.1.2.2.2 0))), x.2.2.2.1, x.2.2.2.2.1, x.2.2.2.2.2.1, x.2.2.2.2.2.2.1, x.2.2.2.2.2.2.2.1, x.2.2.2.2.2.2.2.2.1, x.2.2.2.2.2.2.2.2.2.1, x.2.2.2.2.2.2.2.2.2.2.1, x.2.2.2.2.2.2.2.2.2.2.2.1, x.2.2.2.2.2.2.2.2.2.2.2.2.1, ((x.2.1 (((2 : Int32) * a0)).toNatClampNeg), (x.2.1 ((((2 : Int32) * a0) + (1 : Int32))).toNatClampNeg)), x.2.2.2.2.2.2.2.2.2.2.2.2.2.2))) hx hb hK hP hD hS 5 1 rfl rfl (inL (by decide)) (by decide) dX5_look_154 rfl (fun H locs hP hD hS => ?_)
          refine lv_iinc (k := 0) (v := (0 : Int32)) (lv' := [(2, .int ((0 : Int32))), (0, .ref (ad 0)), (1, .int (a0))]) hx hb dX5_look_155 hl rfl (by decide) (by decide) rfl (fun ls hl => ?_)
          refine lv_goto (tgt := 109) hx hb dX5_look_158 (by decide) ?_
          refine lv_iload_n hx hb dX5_look_109 rfl (lv_at hl 0 rfl) ?_
          refine lv_if_le (tgt := 161) hx hb dX5_look_110 (by decide) (fun _ => ?_) (fun h9 => absurd (by decide) h9)
          refine lv_aload_n hx hb dX5_look_161 rfl (lv_at hl 1 rfl) ?_
          refine va_get (D := D) (ci := 5) (v := .ref (ad 2)) hx hb hG inX5 hown hK hP 0 rfl rfl 4 (by decide) (hG _ kw252) (fun _ h9 => h9) rfl dX5_look_162 ?_
          refine lv_iconst (v := 0) hx hb dX5_look_165 (by decide) ?_
          refine lv_iload_n hx hb dX5_look_166 rfl (lv_at hl 2 rfl) ?_
          refine si (D := D) (j := 0) (f := (upd x.2.2.1.2.1 1 (x.2.2.1.2.1 0))) (x := a0) (W' := (wM cI cJ ad (x.1, x.2.1, ((x.2.2.1.1 + (1 : Int32)), (upd (upd x.2.2.1.2.1 1 (x.2.2.1.2.1 0)) 0 a0), (vp_updL x.2.2.1.2.2.1 1 (x.2.2.1.2.2.1 0)), (vp_updL x.2.2.1.2.2.2 1 (x.2.2.1.2.2.2 0))), x.2.2.2.1, x.2.2.2.2.1, x.2.2.2.2.2.1, x.2.2.2.2.2.2.1, x.2.2.2.2.2.2.2.1, x.2.2.2.2.2.2.2.2.1, x.2.2.2.2.2.2.2.2.2.1, x.2.2.2.2.2.2.2.2.2.2.1, x.2.2.2.2.2.2.2.2.2.2.2.1, x.2.2.2.2.2.2.2.2.2.2.2.2.1, ((x.2.1 (((2 : Int32) * a0)).toNatClampNeg), (x.2.1 ((((2 : Int32) * a0) + (1 : Int32))).toNatClampNeg)), x.2.2.2.2.2.2.2.2.2.2.2.2.2.2))) hx hb hK hP hD hS 2 0 rfl rfl (inL (by decide)) (by decide) dX5_look_167 rfl (fun H locs hP hD hS => ?_)
          refine lv_aload_n hx hb dX5_look_168 rfl (lv_at hl 1 rfl) ?_
          refine va_get (D := D) (ci := 5) (v := .ref (ad 4)) hx hb hG inX5 hown hK hP 0 rfl rfl 6 (by decide) (hG _ kw259) (fun _ h9 => h9) rfl dX5_look_169 ?_
          refine lv_iconst (v := 0) hx hb dX5_look_172 (by decide) ?_
          refine lv_aload_n hx hb dX5_look_173 rfl (lv_at hl 1 rfl) ?_
          refine va_get (D := D) (ci := 5) (v := .long ((x.2.1 (((2 : Int32) * a0)).toNatClampNeg))) hx hb hG inX5 hown hK hP 0 rfl rfl 34 (by decide) (hG _ kw260) (fun _ h9 => h9) rfl dX5_look_174 ?_
          refine sl (D := D) (j := 0) (f := (vp_updL x.2.2.1.2.2.1 1 (x.2.2.1.2.2.1 0))) (x := (x.2.1 (((2 : Int32) * a0)).toNatClampNeg)) (W' := (wM cI cJ ad (x.1, x.2.1, ((x.2.2.1.1 + (1 : Int32)), (upd (upd x.2.2.1.2.1 1 (x.2.2.1.2.1 0)) 0 a0), (vp_updL (vp_updL x.2.2.1.2.2.1 1 (x.2.2.1.2.2.1 0)) 0 (x.2.1 (((2 : Int32) * a0)).toNatClampNeg)), (vp_updL x.2.2.1.2.2.2 1 (x.2.2.1.2.2.2 0))), x.2.2.2.1, x.2.2.2.2.1, x.2.2.2.2.2.1, x.2.2.2.2.2.2.1, x.2.2.2.2.2.2.2.1, x.2.2.2.2.2.2.2.2.1, x.2.2.2.2.2.2.2.2.2.1, x.2.2.2.2.2.2.2.2.2.2.1, x.2.2.2.2.2.2.2.2.2.2.2.1, x.2.2.2.2.2.2.2.2.2.2.2.2.1, ((x.2.1 (((2 : Int32) * a0)).toNatClampNeg), (x.2.1 ((((2 : Int32) * a0) + (1 : Int32))).toNatClampNeg)), x.2.2.2.2.2.2.2.2.2.2.2.2.2.2))) hx hb hK hP hD hS 4 1 rfl rfl (inL (by decide)) (by decide) dX5_look_177 rfl (fun H locs hP hD hS => ?_)
          refine lv_aload_n hx hb dX5_look_178 rfl (lv_at hl 1 rfl) ?_
          refine va_get (D := D) (ci := 5) (v := .ref (ad 5)) hx hb hG inX5 hown hK hP 0 rfl rfl 7 (by decide) (hG _ kw261) (fun _ h9 => h9) rfl dX5_look_179 ?_
          refine lv_iconst (v := 0) hx hb dX5_look_182 (by decide) ?_
          refine lv_aload_n hx hb dX5_look_183 rfl (lv_at hl 1 rfl) ?_
          refine va_get (D := D) (ci := 5) (v := .long ((x.2.1 ((((2 : Int32) * a0) + (1 : Int32))).toNatClampNeg))) hx hb hG inX5 hown hK hP 0 rfl rfl 35 (by decide) (hG _ kw262) (fun _ h9 => h9) rfl dX5_look_184 ?_
          refine sl (D := D) (j := 0) (f := (vp_updL x.2.2.1.2.2.2 1 (x.2.2.1.2.2.2 0))) (x := (x.2.1 ((((2 : Int32) * a0) + (1 : Int32))).toNatClampNeg)) (W' := (wM cI cJ ad (x.1, x.2.1, ((x.2.2.1.1 + (1 : Int32)), (upd (upd x.2.2.1.2.1 1 (x.2.2.1.2.1 0)) 0 a0), (vp_updL (vp_updL x.2.2.1.2.2.1 1 (x.2.2.1.2.2.1 0)) 0 (x.2.1 (((2 : Int32) * a0)).toNatClampNeg)), (vp_updL (vp_updL x.2.2.1.2.2.2 1 (x.2.2.1.2.2.2 0)) 0 (x.2.1 ((((2 : Int32) * a0) + (1 : Int32))).toNatClampNeg))), x.2.2.2.1, x.2.2.2.2.1, x.2.2.2.2.2.1, x.2.2.2.2.2.2.1, x.2.2.2.2.2.2.2.1, x.2.2.2.2.2.2.2.2.1, x.2.2.2.2.2.2.2.2.2.1, x.2.2.2.2.2.2.2.2.2.2.1, x.2.2.2.2.2.2.2.2.2.2.2.1, x.2.2.2.2.2.2.2.2.2.2.2.2.1, ((x.2.1 (((2 : Int32) * a0)).toNatClampNeg), (x.2.1 ((((2 : Int32) * a0) + (1 : Int32))).toNatClampNeg)), x.2.2.2.2.2.2.2.2.2.2.2.2.2.2))) hx hb hK hP hD hS 5 1 rfl rfl (inL (by decide)) (by decide) dX5_look_187 rfl (fun H locs hP hD hS => ?_)
          exact retv (u := (x.1, x.2.1, ((x.2.2.1.1 + (1 : Int32)), (upd (upd x.2.2.1.2.1 1 (x.2.2.1.2.1 0)) 0 a0), (vp_updL (vp_updL x.2.2.1.2.2.1 1 (x.2.2.1.2.2.1 0)) 0 (x.2.1 (((2 : Int32) * a0)).toNatClampNeg)), (vp_updL (vp_updL x.2.2.1.2.2.2 1 (x.2.2.1.2.2.2 0)) 0 (x.2.1 ((((2 : Int32) * a0) + (1 : Int32))).toNatClampNeg))), x.2.2.2.1, x.2.2.2.2.1, x.2.2.2.2.2.1, x.2.2.2.2.2.2.1, x.2.2.2.2.2.2.2.1, x.2.2.2.2.2.2.2.2.1, x.2.2.2.2.2.2.2.2.2.1, x.2.2.2.2.2.2.2.2.2.2.1, x.2.2.2.2.2.2.2.2.2.2.2.1, x.2.2.2.2.2.2.2.2.2.2.2.2.1, ((x.2.1 (((2 : Int32) * a0)).toNatClampNeg), (x.2.1 ((((2 : Int32) * a0) + (1 : Int32))).toNatClampNeg)), x.2.2.2.2.2.2.2.2.2.2.2.2.2.2)) hx hb hr hlocks hK hP hD hS dX5_look_188 (by unfold fnX5_look; rw [← q1]; (try dsimp only); rw [if_neg h2]; rw [if_neg h7]; rw [if_neg h8]; rw [if_neg h9]; rw [if_pos h10]; (try exact rfl))
        by_cases h11 : ((x.2.2.1.1 + (1 : Int32)) - (1 : Int32)) = (2 : Int32)
        · have hl : lv_has ls 3 [(2, .int ((2 : Int32))), (0, .ref (ad 0)), (1, .int (a0))] := lvc h11 (lv_sub hl [0, 1, 2] rfl)
          refine lv_iload_n hx hb dX5_look_109 rfl (lv_at hl 0 rfl) ?_
          refine lv_if_le (tgt := 161) hx hb dX5_look_110 (by decide) (fun h9 => absurd h9 (by decide)) (fun _ => ?_)
          refine lv_aload_n hx hb dX5_look_113 rfl (lv_at hl 1 rfl) ?_
          refine va_get (D := D) (ci := 5) (v := .ref (ad 2)) hx hb hG inX5 hown hK hP 0 rfl rfl 4 (by decide) (hG _ kw252) (fun _ h9 => h9) rfl dX5_look_114 ?_
          refine lv_iload_n hx hb dX5_look_117 rfl (lv_at hl 0 rfl) ?_
          refine lv_aload_n hx hb dX5_look_118 rfl (lv_at hl 1 rfl) ?_
          refine va_get (D := D) (ci := 5) (v := .ref (ad 2)) hx hb hG inX5 hown hK hP 0 rfl rfl 4 (by decide) (hG _ kw252) (fun _ h9 => h9) rfl dX5_look_119 ?_
          refine lv_iload_n hx hb dX5_look_122 rfl (lv_at hl 0 rfl) ?_
          refine lv_iconst (v := 1) hx hb dX5_look_123 (by decide) ?_
          refine lv_isub hx hb dX5_look_124 ?_
          refine tI (y := 1) (by decide) ?_
          refine gi (D := D) (j := 1) (f := x.2.2.1.2.1) hx hb hK hP 2 0 rfl rfl (inL (by decide)) (by decide) dX5_look_125 ?_
          refine si (D := D) (j := 2) (f := x.2.2.1.2.1) (x := (x.2.2.1.2.1 1)) (W' := (wM cI cJ ad (x.1, x.2.1, ((x.2.2.1.1 + (1 : Int32)), (upd x.2.2.1.2.1 2 (x.2.2.1.2.1 1)), x.2.2.1.2.2.1, x.2.2.1.2.2.2), x.2.2.2.1, x.2.2.2.2.1, x.2.2.2.2.2.1, x.2.2.2.2.2.2.1, x.2.2.2.2.2.2.2.1, x.2.2.2.2.2.2.2.2.1, x.2.2.2.2.2.2.2.2.2.1, x.2.2.2.2.2.2.2.2.2.2.1, x.2.2.2.2.2.2.2.2.2.2.2.1, x.2.2.2.2.2.2.2.2.2.2.2.2.1, ((x.2.1 (((2 : Int32) * a0)).toNatClampNeg), (x.2.1 ((((2 : Int32) * a0) + (1 : Int32))).toNatClampNeg)), x.2.2.2.2.2.2.2.2.2.2.2.2.2.2))) hx hb hK hP hD hS 2 0 rfl rfl (inL (by decide)) (by decide) dX5_look_126 rfl (fun H locs hP hD hS => ?_)
          refine lv_aload_n hx hb dX5_look_127 rfl (lv_at hl 1 rfl) ?_
          refine va_get (D := D) (ci := 5) (v := .ref (ad 4)) hx hb hG inX5 hown hK hP 0 rfl rfl 6 (by decide) (hG _ kw259) (fun _ h9 => h9) rfl dX5_look_128 ?_
          refine lv_iload_n hx hb dX5_look_131 rfl (lv_at hl 0 rfl) ?_
          refine lv_aload_n hx hb dX5_look_132 rfl (lv_at hl 1 rfl) ?_
          refine va_get (D := D) (ci := 5) (v := .ref (ad 4)) hx hb hG inX5 hown hK hP 0 rfl rfl 6 (by decide) (hG _ kw259) (fun _ h9 => h9) rfl dX5_look_133 ?_
          refine lv_iload_n hx hb dX5_look_136 rfl (lv_at hl 0 rfl) ?_
          refine lv_iconst (v := 1) hx hb dX5_look_137 (by decide) ?_
          refine lv_isub hx hb dX5_look_138 ?_
          refine tI (y := 1) (by decide) ?_
          refine gl (D := D) (j := 1) (f := x.2.2.1.2.2.1) hx hb hK hP 4 1 rfl rfl (inL (by decide)) (by decide) dX5_look_139 ?_
          refine sl (D := D) (j := 2) (f := x.2.2.1.2.2.1) (x := (x.2.2.1.2.2.1 1)) (W' := (wM cI cJ ad (x.1, x.2.1, ((x.2.2.1.1 + (1 : Int32)), (upd x.2.2.1.2.1 2 (x.2.2.1.2.1 1)), (vp_updL x.2.2.1.2.2.1 2 (x.2.2.1.2.2.1 1)), x.2.2.1.2.2.2), x.2.2.2.1, x.2.2.2.2.1, x.2.2.2.2.2.1, x.2.2.2.2.2.2.1, x.2.2.2.2.2.2.2.1, x.2.2.2.2.2.2.2.2.1, x.2.2.2.2.2.2.2.2.2.1, x.2.2.2.2.2.2.2.2.2.2.1, x.2.2.2.2.2.2.2.2.2.2.2.1, x.2.2.2.2.2.2.2.2.2.2.2.2.1, ((x.2.1 (((2 : Int32) * a0)).toNatClampNeg), (x.2.1 ((((2 : Int32) * a0) + (1 : Int32))).toNatClampNeg)), x.2.2.2.2.2.2.2.2.2.2.2.2.2.2))) hx hb hK hP hD hS 4 1 rfl rfl (inL (by decide)) (by decide) dX5_look_140 rfl (fun H locs hP hD hS => ?_)
          refine lv_aload_n hx hb dX5_look_141 rfl (lv_at hl 1 rfl) ?_
          refine va_get (D := D) (ci := 5) (v := .ref (ad 5)) hx hb hG inX5 hown hK hP 0 rfl rfl 7 (by decide) (hG _ kw261) (fun _ h9 => h9) rfl dX5_look_142 ?_
          refine lv_iload_n hx hb dX5_look_145 rfl (lv_at hl 0 rfl) ?_
          refine lv_aload_n hx hb dX5_look_146 rfl (lv_at hl 1 rfl) ?_
          refine va_get (D := D) (ci := 5) (v := .ref (ad 5)) hx hb hG inX5 hown hK hP 0 rfl rfl 7 (by decide) (hG _ kw261) (fun _ h9 => h9) rfl dX5_look_147 ?_
          refine lv_iload_n hx hb dX5_look_150 rfl (lv_at hl 0 rfl) ?_
          refine lv_iconst (v := 1) hx hb dX5_look_151 (by decide) ?_
          refine lv_isub hx hb dX5_look_152 ?_
          refine tI (y := 1) (by decide) ?_
          refine gl (D := D) (j := 1) (f := x.2.2.1.2.2.2) hx hb hK hP 5 1 rfl rfl (inL (by decide)) (by decide) dX5_look_153 ?_
          refine sl (D := D) (j := 2) (f := x.2.2.1.2.2.2) (x := (x.2.2.1.2.2.2 1)) (W' := (wM cI cJ ad (x.1, x.2.1, ((x.2.2.1.1 + (1 : Int32)), (upd x.2.2.1.2.1 2 (x.2.2.1.2.1 1)), (vp_updL x.2.2.1.2.2.1 2 (x.2.2.1.2.2.1 1)), (vp_updL x.2.2.1.2.2.2 2 (x.2.2.1.2.2.2 1))), x.2.2.2.1, x.2.2.2.2.1, x.2.2.2.2.2.1, x.2.2.2.2.2.2.1, x.2.2.2.2.2.2.2.1, x.2.2.2.2.2.2.2.2.1, x.2.2.2.2.2.2.2.2.2.1, x.2.2.2.2.2.2.2.2.2.2.1, x.2.2.2.2.2.2.2.2.2.2.2.1, x.2.2.2.2.2.2.2.2.2.2.2.2.1, ((x.2.1 (((2 : Int32) * a0)).toNatClampNeg), (x.2.1 ((((2 : Int32) * a0) + (1 : Int32))).toNatClampNeg)), x.2.2.2.2.2.2.2.2.2.2.2.2.2.2))) hx hb hK hP hD hS 5 1 rfl rfl (inL (by decide)) (by decide) dX5_look_154 rfl (fun H locs hP hD hS => ?_)
          refine lv_iinc (k := 0) (v := (1 : Int32)) (lv' := [(2, .int ((1 : Int32))), (0, .ref (ad 0)), (1, .int (a0))]) hx hb dX5_look_155 hl rfl (by decide) (by decide) rfl (fun ls hl => ?_)
          refine lv_goto (tgt := 109) hx hb dX5_look_158 (by decide) ?_
          refine lv_iload_n hx hb dX5_look_109 rfl (lv_at hl 0 rfl) ?_
          refine lv_if_le (tgt := 161) hx hb dX5_look_110 (by decide) (fun h9 => absurd h9 (by decide)) (fun _ => ?_)
          refine lv_aload_n hx hb dX5_look_113 rfl (lv_at hl 1 rfl) ?_
          refine va_get (D := D) (ci := 5) (v := .ref (ad 2)) hx hb hG inX5 hown hK hP 0 rfl rfl 4 (by decide) (hG _ kw252) (fun _ h9 => h9) rfl dX5_look_114 ?_
          refine lv_iload_n hx hb dX5_look_117 rfl (lv_at hl 0 rfl) ?_
          refine lv_aload_n hx hb dX5_look_118 rfl (lv_at hl 1 rfl) ?_
          refine va_get (D := D) (ci := 5) (v := .ref (ad 2)) hx hb hG inX5 hown hK hP 0 rfl rfl 4 (by decide) (hG _ kw252) (fun _ h9 => h9) rfl dX5_look_119 ?_
          refine lv_iload_n hx hb dX5_look_122 rfl (lv_at hl 0 rfl) ?_
          refine lv_iconst (v := 1) hx hb dX5_look_123 (by decide) ?_
          refine lv_isub hx hb dX5_look_124 ?_
          refine tI (y := 0) (by decide) ?_
          refine gi (D := D) (j := 0) (f := (upd x.2.2.1.2.1 2 (x.2.2.1.2.1 1))) hx hb hK hP 2 0 rfl rfl (inL (by decide)) (by decide) dX5_look_125 ?_
          refine si (D := D) (j := 1) (f := (upd x.2.2.1.2.1 2 (x.2.2.1.2.1 1))) (x := ((upd x.2.2.1.2.1 2 (x.2.2.1.2.1 1)) 0)) (W' := (wM cI cJ ad (x.1, x.2.1, ((x.2.2.1.1 + (1 : Int32)), (upd (upd x.2.2.1.2.1 2 (x.2.2.1.2.1 1)) 1 ((upd x.2.2.1.2.1 2 (x.2.2.1.2.1 1)) 0)), (vp_updL x.2.2.1.2.2.1 2 (x.2.2.1.2.2.1 1)), (vp_updL x.2.2.1.2.2.2 2 (x.2.2.1.2.2.2 1))), x.2.2.2.1, x.2.2.2.2.1, x.2.2.2.2.2.1, x.2.2.2.2.2.2.1, x.2.2.2.2.2.2.2.1, x.2.2.2.2.2.2.2.2.1, x.2.2.2.2.2.2.2.2.2.1, x.2.2.2.2.2.2.2.2.2.2.1, x.2.2.2.2.2.2.2.2.2.2.2.1, x.2.2.2.2.2.2.2.2.2.2.2.2.1, ((x.2.1 (((2 : Int32) * a0)).toNatClampNeg), (x.2.1 ((((2 : Int32) * a0) + (1 : Int32))).toNatClampNeg)), x.2.2.2.2.2.2.2.2.2.2.2.2.2.2))) hx hb hK hP hD hS 2 0 rfl rfl (inL (by decide)) (by decide) dX5_look_126 rfl (fun H locs hP hD hS => ?_)
          refine lv_aload_n hx hb dX5_look_127 rfl (lv_at hl 1 rfl) ?_
          refine va_get (D := D) (ci := 5) (v := .ref (ad 4)) hx hb hG inX5 hown hK hP 0 rfl rfl 6 (by decide) (hG _ kw259) (fun _ h9 => h9) rfl dX5_look_128 ?_
          refine lv_iload_n hx hb dX5_look_131 rfl (lv_at hl 0 rfl) ?_
          refine lv_aload_n hx hb dX5_look_132 rfl (lv_at hl 1 rfl) ?_
          refine va_get (D := D) (ci := 5) (v := .ref (ad 4)) hx hb hG inX5 hown hK hP 0 rfl rfl 6 (by decide) (hG _ kw259) (fun _ h9 => h9) rfl dX5_look_133 ?_
          refine lv_iload_n hx hb dX5_look_136 rfl (lv_at hl 0 rfl) ?_
          refine lv_iconst (v := 1) hx hb dX5_look_137 (by decide) ?_
          refine lv_isub hx hb dX5_look_138 ?_
          refine tI (y := 0) (by decide) ?_
          refine gl (D := D) (j := 0) (f := (vp_updL x.2.2.1.2.2.1 2 (x.2.2.1.2.2.1 1))) hx hb hK hP 4 1 rfl rfl (inL (by decide)) (by decide) dX5_look_139 ?_
          refine sl (D := D) (j := 1) (f := (vp_updL x.2.2.1.2.2.1 2 (x.2.2.1.2.2.1 1))) (x := ((vp_updL x.2.2.1.2.2.1 2 (x.2.2.1.2.2.1 1)) 0)) (W' := (wM cI cJ ad (x.1, x.2.1, ((x.2.2.1.1 + (1 : Int32)), (upd (upd x.2.2.1.2.1 2 (x.2.2.1.2.1 1)) 1 ((upd x.2.2.1.2.1 2 (x.2.2.1.2.1 1)) 0)), (vp_updL (vp_updL x.2.2.1.2.2.1 2 (x.2.2.1.2.2.1 1)) 1 ((vp_updL x.2.2.1.2.2.1 2 (x.2.2.1.2.2.1 1)) 0)), (vp_updL x.2.2.1.2.2.2 2 (x.2.2.1.2.2.2 1))), x.2.2.2.1, x.2.2.2.2.1, x.2.2.2.2.2.1, x.2.2.2.2.2.2.1, x.2.2.2.2.2.2.2.1, x.2.2.2.2.2.2.2.2.1, x.2.2.2.2.2.2.2.2.2.1, x.2.2.2.2.2.2.2.2.2.2.1, x.2.2.2.2.2.2.2.2.2.2.2.1, x.2.2.2.2.2.2.2.2.2.2.2.2.1, ((x.2.1 (((2 : Int32) * a0)).toNatClampNeg), (x.2.1 ((((2 : Int32) * a0) + (1 : Int32))).toNatClampNeg)), x.2.2.2.2.2.2.2.2.2.2.2.2.2.2))) hx hb hK hP hD hS 4 1 rfl rfl (inL (by decide)) (by decide) dX5_look_140 rfl (fun H locs hP hD hS => ?_)
          refine lv_aload_n hx hb dX5_look_141 rfl (lv_at hl 1 rfl) ?_
          refine va_get (D := D) (ci := 5) (v := .ref (ad 5)) hx hb hG inX5 hown hK hP 0 rfl rfl 7 (by decide) (hG _ kw261) (fun _ h9 => h9) rfl dX5_look_142 ?_
          refine lv_iload_n hx hb dX5_look_145 rfl (lv_at hl 0 rfl) ?_
          refine lv_aload_n hx hb dX5_look_146 rfl (lv_at hl 1 rfl) ?_
          refine va_get (D := D) (ci := 5) (v := .ref (ad 5)) hx hb hG inX5 hown hK hP 0 rfl rfl 7 (by decide) (hG _ kw261) (fun _ h9 => h9) rfl dX5_look_147 ?_
          refine lv_iload_n hx hb dX5_look_150 rfl (lv_at hl 0 rfl) ?_
          refine lv_iconst (v := 1) hx hb dX5_look_151 (by decide) ?_
          refine lv_isub hx hb dX5_look_152 ?_
          refine tI (y := 0) (by decide) ?_
          refine gl (D := D) (j := 0) (f := (vp_updL x.2.2.1.2.2.2 2 (x.2.2.1.2.2.2 1))) hx hb hK hP 5 1 rfl rfl (inL (by decide)) (by decide) dX5_look_153 ?_
          refine sl (D := D) (j := 1) (f := (vp_updL x.2.2.1.2.2.2 2 (x.2.2.1.2.2.2 1))) (x := ((vp_updL x.2.2.1.2.2.2 2 (x.2.2.1.2.2.2 1)) 0)) (W' := (wM cI cJ ad (x.1, x.2.1, ((x.2.2.1.1 + (1 : Int32)), (upd (upd x.2.2.1.2.1 2 (x.2.2.1.2.1 1)) 1 ((upd x.2.2.1.2.1 2 (x.2.2.1.2.1 1)) 0)), (vp_updL (vp_updL x.2.2.1.2.2.1 2 (x.2.2.1.2.2.1 1)) 1 ((vp_updL x.2.2.1.2.2.1 2 (x.2.2.1.2.2.1 1)) 0)), (vp_updL (vp_updL x.2.2.1.2.2.2 2 (x.2.2.1.2.2.2 1)) 1 ((vp_updL x.2.2.1.2.2.2 2 (x.2.2.1.2.2.2 1)) 0))), x.2.2.2.1, x.2.2.2.2.1, x.2.2.2.2.2.1, x.2.2.2.2.2.2.1, x.2.2.2.2.2.2.2.1, x.2.2.2.2.2.2.2.2.1, x.2.2.2.2.2.2.2.2.2.1, x.2.2.2.2.2.2.2.2.2.2.1, x.2.2.2.2.2.2.2.2.2.2.2.1, x.2.2.2.2.2.2.2.2.2.2.2.2.1, ((x.2.1 (((2 : Int32) * a0)).toNatClampNeg), (x.2.1 ((((2 : Int32) * a0) + (1 : Int32))).toNatClampNeg)), x.2.2.2.2.2.2.2.2.2.2.2.2.2.2))) hx hb hK hP hD hS 5 1 rfl rfl (inL (by decide)) (by decide) dX5_look_154 rfl (fun H locs hP hD hS => ?_)
          refine lv_iinc (k := 0) (v := (0 : Int32)) (lv' := [(2, .int ((0 : Int32))), (0, .ref (ad 0)), (1, .int (a0))]) hx hb dX5_look_155 hl rfl (by decide) (by decide) rfl (fun ls hl => ?_)
          refine lv_goto (tgt := 109) hx hb dX5_look_158 (by decide) ?_
          refine lv_iload_n hx hb dX5_look_109 rfl (lv_at hl 0 rfl) ?_
          refine lv_if_le (tgt := 161) hx hb dX5_look_110 (by decide) (fun _ => ?_) (fun h9 => absurd (by decide) h9)
          refine lv_aload_n hx hb dX5_look_161 rfl (lv_at hl 1 rfl) ?_
          refine va_get (D := D) (ci := 5) (v := .ref (ad 2)) hx hb hG inX5 hown hK hP 0 rfl rfl 4 (by decide) (hG _ kw252) (fun _ h9 => h9) rfl dX5_look_162 ?_
          refine lv_iconst (v := 0) hx hb dX5_look_165 (by decide) ?_
          refine lv_iload_n hx hb dX5_look_166 rfl (lv_at hl 2 rfl) ?_
          refine si (D := D) (j := 0) (f := (upd (upd x.2.2.1.2.1 2 (x.2.2.1.2.1 1)) 1 ((upd x.2.2.1.2.1 2 (x.2.2.1.2.1 1)) 0))) (x := a0) (W' := (wM cI cJ ad (x.1, x.2.1, ((x.2.2.1.1 + (1 : Int32)), (upd (upd (upd x.2.2.1.2.1 2 (x.2.2.1.2.1 1)) 1 ((upd x.2.2.1.2.1 2 (x.2.2.1.2.1 1)) 0)) 0 a0), (vp_updL (vp_updL x.2.2.1.2.2.1 2 (x.2.2.1.2.2.1 1)) 1 ((vp_updL x.2.2.1.2.2.1 2 (x.2.2.1.2.2.1 1)) 0)), (vp_updL (vp_updL x.2.2.1.2.2.2 2 (x.2.2.1.2.2.2 1)) 1 ((vp_updL x.2.2.1.2.2.2 2 (x.2.2.1.2.2.2 1)) 0))), x.2.2.2.1, x.2.2.2.2.1, x.2.2.2.2.2.1, x.2.2.2.2.2.2.1, x.2.2.2.2.2.2.2.1, x.2.2.2.2.2.2.2.2.1, x.2.2.2.2.2.2.2.2.2.1, x.2.2.2.2.2.2.2.2.2.2.1, x.2.2.2.2.2.2.2.2.2.2.2.1, x.2.2.2.2.2.2.2.2.2.2.2.2.1, ((x.2.1 (((2 : Int32) * a0)).toNatClampNeg), (x.2.1 ((((2 : Int32) * a0) + (1 : Int32))).toNatClampNeg)), x.2.2.2.2.2.2.2.2.2.2.2.2.2.2))) hx hb hK hP hD hS 2 0 rfl rfl (inL (by decide)) (by decide) dX5_look_167 rfl (fun H locs hP hD hS => ?_)
          refine lv_aload_n hx hb dX5_look_168 rfl (lv_at hl 1 rfl) ?_
          refine va_get (D := D) (ci := 5) (v := .ref (ad 4)) hx hb hG inX5 hown hK hP 0 rfl rfl 6 (by decide) (hG _ kw259) (fun _ h9 => h9) rfl dX5_look_169 ?_
          refine lv_iconst (v := 0) hx hb dX5_look_172 (by decide) ?_
          refine lv_aload_n hx hb dX5_look_173 rfl (lv_at hl 1 rfl) ?_
          refine va_get (D := D) (ci := 5) (v := .long ((x.2.1 (((2 : Int32) * a0)).toNatClampNeg))) hx hb hG inX5 hown hK hP 0 rfl rfl 34 (by decide) (hG _ kw260) (fun _ h9 => h9) rfl dX5_look_174 ?_
          refine sl (D := D) (j := 0) (f := (vp_updL (vp_updL x.2.2.1.2.2.1 2 (x.2.2.1.2.2.1 1)) 1 ((vp_updL x.2.2.1.2.2.1 2 (x.2.2.1.2.2.1 1)) 0))) (x := (x.2.1 (((2 : Int32) * a0)).toNatClampNeg)) (W' := (wM cI cJ ad (x.1, x.2.1, ((x.2.2.1.1 + (1 : Int32)), (upd (upd (upd x.2.2.1.2.1 2 (x.2.2.1.2.1 1)) 1 ((upd x.2.2.1.2.1 2 (x.2.2.1.2.1 1)) 0)) 0 a0), (vp_updL (vp_updL (vp_updL x.2.2.1.2.2.1 2 (x.2.2.1.2.2.1 1)) 1 ((vp_updL x.2.2.1.2.2.1 2 (x.2.2.1.2.2.1 1)) 0)) 0 (x.2.1 (((2 : Int32) * a0)).toNatClampNeg)), (vp_updL (vp_updL x.2.2.1.2.2.2 2 (x.2.2.1.2.2.2 1)) 1 ((vp_updL x.2.2.1.2.2.2 2 (x.2.2.1.2.2.2 1)) 0))), x.2.2.2.1, x.2.2.2.2.1, x.2.2.2.2.2.1, x.2.2.2.2.2.2.1, x.2.2.2.2.2.2.2.1, x.2.2.2.2.2.2.2.2.1, x.2.2.2.2.2.2.2.2.2.1, x.2.2.2.2.2.2.2.2.2.2.1, x.2.2.2.2.2.2.2.2.2.2.2.1, x.2.2.2.2.2.2.2.2.2.2.2.2.1, ((x.2.1 (((2 : Int32) * a0)).toNatClampNeg), (x.2.1 ((((2 : Int32) * a0) + (1 : Int32))).toNatClampNeg)), x.2.2.2.2.2.2.2.2.2.2.2.2.2.2))) hx hb hK hP hD hS 4 1 rfl rfl (inL (by decide)) (by decide) dX5_look_177 rfl (fun H locs hP hD hS => ?_)
          refine lv_aload_n hx hb dX5_look_178 rfl (lv_at hl 1 rfl) ?_
          refine va_get (D := D) (ci := 5) (v := .ref (ad 5)) hx hb hG inX5 hown hK hP 0 rfl rfl 7 (by decide) (hG _ kw261) (fun _ h9 => h9) rfl dX5_look_179 ?_
          refine lv_iconst (v := 0) hx hb dX5_look_182 (by decide) ?_
          refine lv_aload_n hx hb dX5_look_183 rfl (lv_at hl 1 rfl) ?_
          refine va_get (D := D) (ci := 5) (v := .long ((x.2.1 ((((2 : Int32) * a0) + (1 : Int32))).toNatClampNeg))) hx hb hG inX5 hown hK hP 0 rfl rfl 35 (by decide) (hG _ kw262) (fun _ h9 => h9) rfl dX5_look_184 ?_
          refine sl (D := D) (j := 0) (f := (vp_updL (vp_updL x.2.2.1.2.2.2 2 (x.2.2.1.2.2.2 1)) 1 ((vp_updL x.2.2.1.2.2.2 2 (x.2.2.1.2.2.2 1)) 0))) (x := (x.2.1 ((((2 : Int32) * a0) + (1 : Int32))).toNatClampNeg)) (W' := (wM cI cJ ad (x.1, x.2.1, ((x.2.2.1.1 + (1 : Int32)), (upd (upd (upd x.2.2.1.2.1 2 (x.2.2.1.2.1 1)) 1 ((upd x.2.2.1.2.1 2 (x.2.2.1.2.1 1)) 0)) 0 a0), (vp_updL (vp_updL (vp_updL x.2.2.1.2.2.1 2 (x.2.2.1.2.2.1 1)) 1 ((vp_updL x.2.2.1.2.2.1 2 (x.2.2.1.2.2.1 1)) 0)) 0 (x.2.1 (((2 : Int32) * a0)).toNatClampNeg)), (vp_updL (vp_updL (vp_updL x.2.2.1.2.2.2 2 (x.2.2.1.2.2.2 1)) 1 ((vp_updL x.2.2.1.2.2.2 2 (x.2.2.1.2.2.2 1)) 0)) 0 (x.2.1 ((((2 : Int32) * a0) + (1 : Int32))).toNatClampNeg))), x.2.2.2.1, x.2.2.2.2.1, x.2.2.2.2.2.1, x.2.2.2.2.2.2.1, x.2.2.2.2.2.2.2.1, x.2.2.2.2.2.2.2.2.1, x.2.2.2.2.2.2.2.2.2.1, x.2.2.2.2.2.2.2.2.2.2.1, x.2.2.2.2.2.2.2.2.2.2.2.1, x.2.2.2.2.2.2.2.2.2.2.2.2.1, ((x.2.1 (((2 : Int32) * a0)).toNatClampNeg), (x.2.1 ((((2 : Int32) * a0) + (1 : Int32))).toNatClampNeg)), x.2.2.2.2.2.2.2.2.2.2.2.2.2.2))) hx hb hK hP hD hS 5 1 rfl rfl (inL (by decide)) (by decide) dX5_look_187 rfl (fun H locs hP hD hS => ?_)
          exact retv (u := (x.1, x.2.1, ((x.2.2.1.1 + (1 : Int32)), (upd (upd (upd x.2.2.1.2.1 2 (x.2.2.1.2.1 1)) 1 ((upd x.2.2.1.2.1 2 (x.2.2.1.2.1 1)) 0)) 0 a0), (vp_updL (vp_updL (vp_updL x.2.2.1.2.2.1 2 (x.2.2.1.2.2.1 1)) 1 ((vp_updL x.2.2.1.2.2.1 2 (x.2.2.1.2.2.1 1)) 0)) 0 (x.2.1 (((2 : Int32) * a0)).toNatClampNeg)), (vp_updL (vp_updL (vp_updL x.2.2.1.2.2.2 2 (x.2.2.1.2.2.2 1)) 1 ((vp_updL x.2.2.1.2.2.2 2 (x.2.2.1.2.2.2 1)) 0)) 0 (x.2.1 ((((2 : Int32) * a0) + (1 : Int32))).toNatClampNeg))), x.2.2.2.1, x.2.2.2.2.1, x.2.2.2.2.2.1, x.2.2.2.2.2.2.1, x.2.2.2.2.2.2.2.1, x.2.2.2.2.2.2.2.2.1, x.2.2.2.2.2.2.2.2.2.1, x.2.2.2.2.2.2.2.2.2.2.1, x.2.2.2.2.2.2.2.2.2.2.2.1, x.2.2.2.2.2.2.2.2.2.2.2.2.1, ((x.2.1 (((2 : Int32) * a0)).toNatClampNeg), (x.2.1 ((((2 : Int32) * a0) + (1 : Int32))).toNatClampNeg)), x.2.2.2.2.2.2.2.2.2.2.2.2.2.2)) hx hb hr hlocks hK hP hD hS dX5_look_188 (by unfold fnX5_look; rw [← q1]; (try dsimp only); rw [if_neg h2]; rw [if_neg h7]; rw [if_neg h8]; rw [if_neg h9]; rw [if_neg h10]; rw [if_pos h11]; (try exact rfl))
        have h12 : ((x.2.2.1.1 + (1 : Int32)) - (1 : Int32)) = (3 : Int32) := c4l (addA hI.1 h8) h9 h10 h11
        have hl : lv_has ls 3 [(2, .int ((3 : Int32))), (0, .ref (ad 0)), (1, .int (a0))] := lvc h12 (lv_sub hl [0, 1, 2] rfl)
        refine lv_iload_n hx hb dX5_look_109 rfl (lv_at hl 0 rfl) ?_
        refine lv_if_le (tgt := 161) hx hb dX5_look_110 (by decide) (fun h9 => absurd h9 (by decide)) (fun _ => ?_)
        refine lv_aload_n hx hb dX5_look_113 rfl (lv_at hl 1 rfl) ?_
        refine va_get (D := D) (ci := 5) (v := .ref (ad 2)) hx hb hG inX5 hown hK hP 0 rfl rfl 4 (by decide) (hG _ kw252) (fun _ h9 => h9) rfl dX5_look_114 ?_
        refine lv_iload_n hx hb dX5_look_117 rfl (lv_at hl 0 rfl) ?_
        refine lv_aload_n hx hb dX5_look_118 rfl (lv_at hl 1 rfl) ?_
        refine va_get (D := D) (ci := 5) (v := .ref (ad 2)) hx hb hG inX5 hown hK hP 0 rfl rfl 4 (by decide) (hG _ kw252) (fun _ h9 => h9) rfl dX5_look_119 ?_
        refine lv_iload_n hx hb dX5_look_122 rfl (lv_at hl 0 rfl) ?_
        refine lv_iconst (v := 1) hx hb dX5_look_123 (by decide) ?_
        refine lv_isub hx hb dX5_look_124 ?_
        refine tI (y := 2) (by decide) ?_
        refine gi (D := D) (j := 2) (f := x.2.2.1.2.1) hx hb hK hP 2 0 rfl rfl (inL (by decide)) (by decide) dX5_look_125 ?_
        refine si (D := D) (j := 3) (f := x.2.2.1.2.1) (x := (x.2.2.1.2.1 2)) (W' := (wM cI cJ ad (x.1, x.2.1, ((x.2.2.1.1 + (1 : Int32)), (upd x.2.2.1.2.1 3 (x.2.2.1.2.1 2)), x.2.2.1.2.2.1, x.2.2.1.2.2.2), x.2.2.2.1, x.2.2.2.2.1, x.2.2.2.2.2.1, x.2.2.2.2.2.2.1, x.2.2.2.2.2.2.2.1, x.2.2.2.2.2.2.2.2.1, x.2.2.2.2.2.2.2.2.2.1, x.2.2.2.2.2.2.2.2.2.2.1, x.2.2.2.2.2.2.2.2.2.2.2.1, x.2.2.2.2.2.2.2.2.2.2.2.2.1, ((x.2.1 (((2 : Int32) * a0)).toNatClampNeg), (x.2.1 ((((2 : Int32) * a0) + (1 : Int32))).toNatClampNeg)), x.2.2.2.2.2.2.2.2.2.2.2.2.2.2))) hx hb hK hP hD hS 2 0 rfl rfl (inL (by decide)) (by decide) dX5_look_126 rfl (fun H locs hP hD hS => ?_)
        refine lv_aload_n hx hb dX5_look_127 rfl (lv_at hl 1 rfl) ?_
        refine va_get (D := D) (ci := 5) (v := .ref (ad 4)) hx hb hG inX5 hown hK hP 0 rfl rfl 6 (by decide) (hG _ kw259) (fun _ h9 => h9) rfl dX5_look_128 ?_
        refine lv_iload_n hx hb dX5_look_131 rfl (lv_at hl 0 rfl) ?_
        refine lv_aload_n hx hb dX5_look_132 rfl (lv_at hl 1 rfl) ?_
        refine va_get (D := D) (ci := 5) (v := .ref (ad 4)) hx hb hG inX5 hown hK hP 0 rfl rfl 6 (by decide) (hG _ kw259) (fun _ h9 => h9) rfl dX5_look_133 ?_
        refine lv_iload_n hx hb dX5_look_136 rfl (lv_at hl 0 rfl) ?_
        refine lv_iconst (v := 1) hx hb dX5_look_137 (by decide) ?_
        refine lv_isub hx hb dX5_look_138 ?_
        refine tI (y := 2) (by decide) ?_
        refine gl (D := D) (j := 2) (f := x.2.2.1.2.2.1) hx hb hK hP 4 1 rfl rfl (inL (by decide)) (by decide) dX5_look_139 ?_
        refine sl (D := D) (j := 3) (f := x.2.2.1.2.2.1) (x := (x.2.2.1.2.2.1 2)) (W' := (wM cI cJ ad (x.1, x.2.1, ((x.2.2.1.1 + (1 : Int32)), (upd x.2.2.1.2.1 3 (x.2.2.1.2.1 2)), (vp_updL x.2.2.1.2.2.1 3 (x.2.2.1.2.2.1 2)), x.2.2.1.2.2.2), x.2.2.2.1, x.2.2.2.2.1, x.2.2.2.2.2.1, x.2.2.2.2.2.2.1, x.2.2.2.2.2.2.2.1, x.2.2.2.2.2.2.2.2.1, x.2.2.2.2.2.2.2.2.2.1, x.2.2.2.2.2.2.2.2.2.2.1, x.2.2.2.2.2.2.2.2.2.2.2.1, x.2.2.2.2.2.2.2.2.2.2.2.2.1, ((x.2.1 (((2 : Int32) * a0)).toNatClampNeg), (x.2.1 ((((2 : Int32) * a0) + (1 : Int32))).toNatClampNeg)), x.2.2.2.2.2.2.2.2.2.2.2.2.2.2))) hx hb hK hP hD hS 4 1 rfl rfl (inL (by decide)) (by decide) dX5_look_140 rfl (fun H locs hP hD hS => ?_)
        refine lv_aload_n hx hb dX5_look_141 rfl (lv_at hl 1 rfl) ?_
        refine va_get (D := D) (ci := 5) (v := .ref (ad 5)) hx hb hG inX5 hown hK hP 0 rfl rfl 7 (by decide) (hG _ kw261) (fun _ h9 => h9) rfl dX5_look_142 ?_
        refine lv_iload_n hx hb dX5_look_145 rfl (lv_at hl 0 rfl) ?_
        refine lv_aload_n hx hb dX5_look_146 rfl (lv_at hl 1 rfl) ?_
        refine va_get (D := D) (ci := 5) (v := .ref (ad 5)) hx hb hG inX5 hown hK hP 0 rfl rfl 7 (by decide) (hG _ kw261) (fun _ h9 => h9) rfl dX5_look_147 ?_
        refine lv_iload_n hx hb dX5_look_150 rfl (lv_at hl 0 rfl) ?_
        refine lv_iconst (v := 1) hx hb dX5_look_151 (by decide) ?_
        refine lv_isub hx hb dX5_look_152 ?_
        refine tI (y := 2) (by decide) ?_
        refine gl (D := D) (j := 2) (f := x.2.2.1.2.2.2) hx hb hK hP 5 1 rfl rfl (inL (by decide)) (by decide) dX5_look_153 ?_
        refine sl (D := D) (j := 3) (f := x.2.2.1.2.2.2) (x := (x.2.2.1.2.2.2 2)) (W' := (wM cI cJ ad (x.1, x.2.1, ((x.2.2.1.1 + (1 : Int32)), (upd x.2.2.1.2.1 3 (x.2.2.1.2.1 2)), (vp_updL x.2.2.1.2.2.1 3 (x.2.2.1.2.2.1 2)), (vp_updL x.2.2.1.2.2.2 3 (x.2.2.1.2.2.2 2))), x.2.2.2.1, x.2.2.2.2.1, x.2.2.2.2.2.1, x.2.2.2.2.2.2.1, x.2.2.2.2.2.2.2.1, x.2.2.2.2.2.2.2.2.1, x.2.2.2.2.2.2.2.2.2.1, x.2.2.2.2.2.2.2.2.2.2.1, x.2.2.2.2.2.2.2.2.2.2.2.1, x.2.2.2.2.2.2.2.2.2.2.2.2.1, ((x.2.1 (((2 : Int32) * a0)).toNatClampNeg), (x.2.1 ((((2 : Int32) * a0) + (1 : Int32))).toNatClampNeg)), x.2.2.2.2.2.2.2.2.2.2.2.2.2.2))) hx hb hK hP hD hS 5 1 rfl rfl (inL (by decide)) (by decide) dX5_look_154 rfl (fun H locs hP hD hS => ?_)
        refine lv_iinc (k := 0) (v := (2 : Int32)) (lv' := [(2, .int ((2 : Int32))), (0, .ref (ad 0)), (1, .int (a0))]) hx hb dX5_look_155 hl rfl (by decide) (by decide) rfl (fun ls hl => ?_)
        refine lv_goto (tgt := 109) hx hb dX5_look_158 (by decide) ?_
        refine lv_iload_n hx hb dX5_look_109 rfl (lv_at hl 0 rfl) ?_
        refine lv_if_le (tgt := 161) hx hb dX5_look_110 (by decide) (fun h9 => absurd h9 (by decide)) (fun _ => ?_)
        refine lv_aload_n hx hb dX5_look_113 rfl (lv_at hl 1 rfl) ?_
        refine va_get (D := D) (ci := 5) (v := .ref (ad 2)) hx hb hG inX5 hown hK hP 0 rfl rfl 4 (by decide) (hG _ kw252) (fun _ h9 => h9) rfl dX5_look_114 ?_
        refine lv_iload_n hx hb dX5_look_117 rfl (lv_at hl 0 rfl) ?_
        refine lv_aload_n hx hb dX5_look_118 rfl (lv_at hl 1 rfl) ?_
        refine va_get (D := D) (ci := 5) (v := .ref (ad 2)) hx hb hG inX5 hown hK hP 0 rfl rfl 4 (by decide) (hG _ kw252) (fun _ h9 => h9) rfl dX5_look_119 ?_
        refine lv_iload_n hx hb dX5_look_122 rfl (lv_at hl 0 rfl) ?_
        refine lv_iconst (v := 1) hx hb dX5_look_123 (by decide) ?_
        refine lv_isub hx hb dX5_look_124 ?_
        refine tI (y := 1) (by decide) ?_
        refine gi (D := D) (j := 1) (f := (upd x.2.2.1.2.1 3 (x.2.2.1.2.1 2))) hx hb hK hP 2 0 rfl rfl (inL (by decide)) (by decide) dX5_look_125 ?_
        refine si (D := D) (j := 2) (f := (upd x.2.2.1.2.1 3 (x.2.2.1.2.1 2))) (x := ((upd x.2.2.1.2.1 3 (x.2.2.1.2.1 2)) 1)) (W' := (wM cI cJ ad (x.1, x.2.1, ((x.2.2.1.1 + (1 : Int32)), (upd (upd x.2.2.1.2.1 3 (x.2.2.1.2.1 2)) 2 ((upd x.2.2.1.2.1 3 (x.2.2.1.2.1 2)) 1)), (vp_updL x.2.2.1.2.2.1 3 (x.2.2.1.2.2.1 2)), (vp_updL x.2.2.1.2.2.2 3 (x.2.2.1.2.2.2 2))), x.2.2.2.1, x.2.2.2.2.1, x.2.2.2.2.2.1, x.2.2.2.2.2.2.1, x.2.2.2.2.2.2.2.1, x.2.2.2.2.2.2.2.2.1, x.2.2.2.2.2.2.2.2.2.1, x.2.2.2.2.2.2.2.2.2.2.1, x.2.2.2.2.2.2.2.2.2.2.2.1, x.2.2.2.2.2.2.2.2.2.2.2.2.1, ((x.2.1 (((2 : Int32) * a0)).toNatClampNeg), (x.2.1 ((((2 : Int32) * a0) + (1 : Int32))).toNatClampNeg)), x.2.2.2.2.2.2.2.2.2.2.2.2.2.2))) hx hb hK hP hD hS 2 0 rfl rfl (inL (by decide)) (by decide) dX5_look_126 rfl (fun H locs hP hD hS => ?_)
        refine lv_aload_n hx hb dX5_look_127 rfl (lv_at hl 1 rfl) ?_
        refine va_get (D := D) (ci := 5) (v := .ref (ad 4)) hx hb hG inX5 hown hK hP 0 rfl rfl 6 (by decide) (hG _ kw259) (fun _ h9 => h9) rfl dX5_look_128 ?_
        refine lv_iload_n hx hb dX5_look_131 rfl (lv_at hl 0 rfl) ?_
        refine lv_aload_n hx hb dX5_look_132 rfl (lv_at hl 1 rfl) ?_
        refine va_get (D := D) (ci := 5) (v := .ref (ad 4)) hx hb hG inX5 hown hK hP 0 rfl rfl 6 (by decide) (hG _ kw259) (fun _ h9 => h9) rfl dX5_look_133 ?_
        refine lv_iload_n hx hb dX5_look_136 rfl (lv_at hl 0 rfl) ?_
        refine lv_iconst (v := 1) hx hb dX5_look_137 (by decide) ?_
        refine lv_isub hx hb dX5_look_138 ?_
        refine tI (y := 1) (by decide) ?_
        refine gl (D := D) (j := 1) (f := (vp_updL x.2.2.1.2.2.1 3 (x.2.2.1.2.2.1 2))) hx hb hK hP 4 1 rfl rfl (inL (by decide)) (by decide) dX5_look_139 ?_
        refine sl (D := D) (j := 2) (f := (vp_updL x.2.2.1.2.2.1 3 (x.2.2.1.2.2.1 2))) (x := ((vp_updL x.2.2.1.2.2.1 3 (x.2.2.1.2.2.1 2)) 1)) (W' := (wM cI cJ ad (x.1, x.2.1, ((x.2.2.1.1 + (1 : Int32)), (upd (upd x.2.2.1.2.1 3 (x.2.2.1.2.1 2)) 2 ((upd x.2.2.1.2.1 3 (x.2.2.1.2.1 2)) 1)), (vp_updL (vp_updL x.2.2.1.2.2.1 3 (x.2.2.1.2.2.1 2)) 2 ((vp_updL x.2.2.1.2.2.1 3 (x.2.2.1.2.2.1 2)) 1)), (vp_updL x.2.2.1.2.2.2 3 (x.2.2.1.2.2.2 2))), x.2.2.2.1, x.2.2.2.2.1, x.2.2.2.2.2.1, x.2.2.2.2.2.2.1, x.2.2.2.2.2.2.2.1, x.2.2.2.2.2.2.2.2.1, x.2.2.2.2.2.2.2.2.2.1, x.2.2.2.2.2.2.2.2.2.2.1, x.2.2.2.2.2.2.2.2.2.2.2.1, x.2.2.2.2.2.2.2.2.2.2.2.2.1, ((x.2.1 (((2 : Int32) * a0)).toNatClampNeg), (x.2.1 ((((2 : Int32) * a0) + (1 : Int32))).toNatClampNeg)), x.2.2.2.2.2.2.2.2.2.2.2.2.2.2))) hx hb hK hP hD hS 4 1 rfl rfl (inL (by decide)) (by decide) dX5_look_140 rfl (fun H locs hP hD hS => ?_)
        refine lv_aload_n hx hb dX5_look_141 rfl (lv_at hl 1 rfl) ?_
        refine va_get (D := D) (ci := 5) (v := .ref (ad 5)) hx hb hG inX5 hown hK hP 0 rfl rfl 7 (by decide) (hG _ kw261) (fun _ h9 => h9) rfl dX5_look_142 ?_
        refine lv_iload_n hx hb dX5_look_145 rfl (lv_at hl 0 rfl) ?_
        refine lv_aload_n hx hb dX5_look_146 rfl (lv_at hl 1 rfl) ?_
        refine va_get (D := D) (ci := 5) (v := .ref (ad 5)) hx hb hG inX5 hown hK hP 0 rfl rfl 7 (by decide) (hG _ kw261) (fun _ h9 => h9) rfl dX5_look_147 ?_
        refine lv_iload_n hx hb dX5_look_150 rfl (lv_at hl 0 rfl) ?_
        refine lv_iconst (v := 1) hx hb dX5_look_151 (by decide) ?_
        refine lv_isub hx hb dX5_look_152 ?_
        refine tI (y := 1) (by decide) ?_
        refine gl (D := D) (j := 1) (f := (vp_updL x.2.2.1.2.2.2 3 (x.2.2.1.2.2.2 2))) hx hb hK hP 5 1 rfl rfl (inL (by decide)) (by decide) dX5_look_153 ?_
        refine sl (D := D) (j := 2) (f := (vp_updL x.2.2.1.2.2.2 3 (x.2.2.1.2.2.2 2))) (x := ((vp_updL x.2.2.1.2.2.2 3 (x.2.2.1.2.2.2 2)) 1)) (W' := (wM cI cJ ad (x.1, x.2.1, ((x.2.2.1.1 + (1 : Int32)), (upd (upd x.2.2.1.2.1 3 (x.2.2.1.2.1 2)) 2 ((upd x.2.2.1.2.1 3 (x.2.2.1.2.1 2)) 1)), (vp_updL (vp_updL x.2.2.1.2.2.1 3 (x.2.2.1.2.2.1 2)) 2 ((vp_updL x.2.2.1.2.2.1 3 (x.2.2.1.2.2.1 2)) 1)), (vp_updL (vp_updL x.2.2.1.2.2.2 3 (x.2.2.1.2.2.2 2)) 2 ((vp_updL x.2.2.1.2.2.2 3 (x.2.2.1.2.2.2 2)) 1))), x.2.2.2.1, x.2.2.2.2.1, x.2.2.2.2.2.1, x.2.2.2.2.2.2.1, x.2.2.2.2.2.2.2.1, x.2.2.2.2.2.2.2.2.1, x.2.2.2.2.2.2.2.2.2.1, x.2.2.2.2.2.2.2.2.2.2.1, x.2.2.2.2.2.2.2.2.2.2.2.1, x.2.2.2.2.2.2.2.2.2.2.2.2.1, ((x.2.1 (((2 : Int32) * a0)).toNatClampNeg), (x.2.1 ((((2 : Int32) * a0) + (1 : Int32))).toNatClampNeg)), x.2.2.2.2.2.2.2.2.2.2.2.2.2.2))) hx hb hK hP hD hS 5 1 rfl rfl (inL (by decide)) (by decide) dX5_look_154 rfl (fun H locs hP hD hS => ?_)
        refine lv_iinc (k := 0) (v := (1 : Int32)) (lv' := [(2, .int ((1 : Int32))), (0, .ref (ad 0)), (1, .int (a0))]) hx hb dX5_look_155 hl rfl (by decide) (by decide) rfl (fun ls hl => ?_)
        refine lv_goto (tgt := 109) hx hb dX5_look_158 (by decide) ?_
        refine lv_iload_n hx hb dX5_look_109 rfl (lv_at hl 0 rfl) ?_
        refine lv_if_le (tgt := 161) hx hb dX5_look_110 (by decide) (fun h9 => absurd h9 (by decide)) (fun _ => ?_)
        refine lv_aload_n hx hb dX5_look_113 rfl (lv_at hl 1 rfl) ?_
        refine va_get (D := D) (ci := 5) (v := .ref (ad 2)) hx hb hG inX5 hown hK hP 0 rfl rfl 4 (by decide) (hG _ kw252) (fun _ h9 => h9) rfl dX5_look_114 ?_
        refine lv_iload_n hx hb dX5_look_117 rfl (lv_at hl 0 rfl) ?_
        refine lv_aload_n hx hb dX5_look_118 rfl (lv_at hl 1 rfl) ?_
        refine va_get (D := D) (ci := 5) (v := .ref (ad 2)) hx hb hG inX5 hown hK hP 0 rfl rfl 4 (by decide) (hG _ kw252) (fun _ h9 => h9) rfl dX5_look_119 ?_
        refine lv_iload_n hx hb dX5_look_122 rfl (lv_at hl 0 rfl) ?_
        refine lv_iconst (v := 1) hx hb dX5_look_123 (by decide) ?_
        refine lv_isub hx hb dX5_look_124 ?_
        refine tI (y := 0) (by decide) ?_
        refine gi (D := D) (j := 0) (f := (upd (upd x.2.2.1.2.1 3 (x.2.2.1.2.1 2)) 2 ((upd x.2.2.1.2.1 3 (x.2.2.1.2.1 2)) 1))) hx hb hK hP 2 0 rfl rfl (inL (by decide)) (by decide) dX5_look_125 ?_
        refine si (D := D) (j := 1) (f := (upd (upd x.2.2.1.2.1 3 (x.2.2.1.2.1 2)) 2 ((upd x.2.2.1.2.1 3 (x.2.2.1.2.1 2)) 1))) (x := ((upd (upd x.2.2.1.2.1 3 (x.2.2.1.2.1 2)) 2 ((upd x.2.2.1.2.1 3 (x.2.2.1.2.1 2)) 1)) 0)) (W' := (wM cI cJ ad (x.1, x.2.1, ((x.2.2.1.1 + (1 : Int32)), (upd (upd (upd x.2.2.1.2.1 3 (x.2.2.1.2.1 2)) 2 ((upd x.2.2.1.2.1 3 (x.2.2.1.2.1 2)) 1)) 1 ((upd (upd x.2.2.1.2.1 3 (x.2.2.1.2.1 2)) 2 ((upd x.2.2.1.2.1 3 (x.2.2.1.2.1 2)) 1)) 0)), (vp_updL (vp_updL x.2.2.1.2.2.1 3 (x.2.2.1.2.2.1 2)) 2 ((vp_updL x.2.2.1.2.2.1 3 (x.2.2.1.2.2.1 2)) 1)), (vp_updL (vp_updL x.2.2.1.2.2.2 3 (x.2.2.1.2.2.2 2)) 2 ((vp_updL x.2.2.1.2.2.2 3 (x.2.2.1.2.2.2 2)) 1))), x.2.2.2.1, x.2.2.2.2.1, x.2.2.2.2.2.1, x.2.2.2.2.2.2.1, x.2.2.2.2.2.2.2.1, x.2.2.2.2.2.2.2.2.1, x.2.2.2.2.2.2.2.2.2.1, x.2.2.2.2.2.2.2.2.2.2.1, x.2.2.2.2.2.2.2.2.2.2.2.1, x.2.2.2.2.2.2.2.2.2.2.2.2.1, ((x.2.1 (((2 : Int32) * a0)).toNatClampNeg), (x.2.1 ((((2 : Int32) * a0) + (1 : Int32))).toNatClampNeg)), x.2.2.2.2.2.2.2.2.2.2.2.2.2.2))) hx hb hK hP hD hS 2 0 rfl rfl (inL (by decide)) (by decide) dX5_look_126 rfl (fun H locs hP hD hS => ?_)
        refine lv_aload_n hx hb dX5_look_127 rfl (lv_at hl 1 rfl) ?_
        refine va_get (D := D) (ci := 5) (v := .ref (ad 4)) hx hb hG inX5 hown hK hP 0 rfl rfl 6 (by decide) (hG _ kw259) (fun _ h9 => h9) rfl dX5_look_128 ?_
        refine lv_iload_n hx hb dX5_look_131 rfl (lv_at hl 0 rfl) ?_
        refine lv_aload_n hx hb dX5_look_132 rfl (lv_at hl 1 rfl) ?_
        refine va_get (D := D) (ci := 5) (v := .ref (ad 4)) hx hb hG inX5 hown hK hP 0 rfl rfl 6 (by decide) (hG _ kw259) (fun _ h9 => h9) rfl dX5_look_133 ?_
        refine lv_iload_n hx hb dX5_look_136 rfl (lv_at hl 0 rfl) ?_
        refine lv_iconst (v := 1) hx hb dX5_look_137 (by decide) ?_
        refine lv_isub hx hb dX5_look_138 ?_
        refine tI (y := 0) (by decide) ?_
        refine gl (D := D) (j := 0) (f := (vp_updL (vp_updL x.2.2.1.2.2.1 3 (x.2.2.1.2.2.1 2)) 2 ((vp_updL x.2.2.1.2.2.1 3 (x.2.2.1.2.2.1 2)) 1))) hx hb hK hP 4 1 rfl rfl (inL (by decide)) (by decide) dX5_look_139 ?_
        refine sl (D := D) (j := 1) (f := (vp_updL (vp_updL x.2.2.1.2.2.1 3 (x.2.2.1.2.2.1 2)) 2 ((vp_updL x.2.2.1.2.2.1 3 (x.2.2.1.2.2.1 2)) 1))) (x := ((vp_updL (vp_updL x.2.2.1.2.2.1 3 (x.2.2.1.2.2.1 2)) 2 ((vp_updL x.2.2.1.2.2.1 3 (x.2.2.1.2.2.1 2)) 1)) 0)) (W' := (wM cI cJ ad (x.1, x.2.1, ((x.2.2.1.1 + (1 : Int32)), (upd (upd (upd x.2.2.1.2.1 3 (x.2.2.1.2.1 2)) 2 ((upd x.2.2.1.2.1 3 (x.2.2.1.2.1 2)) 1)) 1 ((upd (upd x.2.2.1.2.1 3 (x.2.2.1.2.1 2)) 2 ((upd x.2.2.1.2.1 3 (x.2.2.1.2.1 2)) 1)) 0)), (vp_updL (vp_updL (vp_updL x.2.2.1.2.2.1 3 (x.2.2.1.2.2.1 2)) 2 ((vp_updL x.2.2.1.2.2.1 3 (x.2.2.1.2.2.1 2)) 1)) 1 ((vp_updL (vp_updL x.2.2.1.2.2.1 3 (x.2.2.1.2.2.1 2)) 2 ((vp_updL x.2.2.1.2.2.1 3 (x.2.2.1.2.2.1 2)) 1)) 0)), (vp_updL (vp_updL x.2.2.1.2.2.2 3 (x.2.2.1.2.2.2 2)) 2 ((vp_updL x.2.2.1.2.2.2 3 (x.2.2.1.2.2.2 2)) 1))), x.2.2.2.1, x.2.2.2.2.1, x.2.2.2.2.2.1, x.2.2.2.2.2.2.1, x.2.2.2.2.2.2.2.1, x.2.2.2.2.2.2.2.2.1, x.2.2.2.2.2.2.2.2.2.1, x.2.2.2.2.2.2.2.2.2.2.1, x.2.2.2.2.2.2.2.2.2.2.2.1, x.2.2.2.2.2.2.2.2.2.2.2.2.1, ((x.2.1 (((2 : Int32) * a0)).toNatClampNeg), (x.2.1 ((((2 : Int32) * a0) + (1 : Int32))).toNatClampNeg)), x.2.2.2.2.2.2.2.2.2.2.2.2.2.2))) hx hb hK hP hD hS 4 1 rfl rfl (inL (by decide)) (by decide) dX5_look_140 rfl (fun H locs hP hD hS => ?_)
        refine lv_aload_n hx hb dX5_look_141 rfl (lv_at hl 1 rfl) ?_
        refine va_get (D := D) (ci := 5) (v := .ref (ad 5)) hx hb hG inX5 hown hK hP 0 rfl rfl 7 (by decide) (hG _ kw261) (fun _ h9 => h9) rfl dX5_look_142 ?_
        refine lv_iload_n hx hb dX5_look_145 rfl (lv_at hl 0 rfl) ?_
        refine lv_aload_n hx hb dX5_look_146 rfl (lv_at hl 1 rfl) ?_
        refine va_get (D := D) (ci := 5) (v := .ref (ad 5)) hx hb hG inX5 hown hK hP 0 rfl rfl 7 (by decide) (hG _ kw261) (fun _ h9 => h9) rfl dX5_look_147 ?_
        refine lv_iload_n hx hb dX5_look_150 rfl (lv_at hl 0 rfl) ?_
        refine lv_iconst (v := 1) hx hb dX5_look_151 (by decide) ?_
        refine lv_isub hx hb dX5_look_152 ?_
        refine tI (y := 0) (by decide) ?_
        refine gl (D := D) (j := 0) (f := (vp_updL (vp_updL x.2.2.1.2.2.2 3 (x.2.2.1.2.2.2 2)) 2 ((vp_updL x.2.2.1.2.2.2 3 (x.2.2.1.2.2.2 2)) 1))) hx hb hK hP 5 1 rfl rfl (inL (by decide)) (by decide) dX5_look_153 ?_
        refine sl (D := D) (j := 1) (f := (vp_updL (vp_updL x.2.2.1.2.2.2 3 (x.2.2.1.2.2.2 2)) 2 ((vp_updL x.2.2.1.2.2.2 3 (x.2.2.1.2.2.2 2)) 1))) (x := ((vp_updL (vp_updL x.2.2.1.2.2.2 3 (x.2.2.1.2.2.2 2)) 2 ((vp_updL x.2.2.1.2.2.2 3 (x.2.2.1.2.2.2 2)) 1)) 0)) (W' := (wM cI cJ ad (x.1, x.2.1, ((x.2.2.1.1 + (1 : Int32)), (upd (upd (upd x.2.2.1.2.1 3 (x.2.2.1.2.1 2)) 2 ((upd x.2.2.1.2.1 3 (x.2.2.1.2.1 2)) 1)) 1 ((upd (upd x.2.2.1.2.1 3 (x.2.2.1.2.1 2)) 2 ((upd x.2.2.1.2.1 3 (x.2.2.1.2.1 2)) 1)) 0)), (vp_updL (vp_updL (vp_updL x.2.2.1.2.2.1 3 (x.2.2.1.2.2.1 2)) 2 ((vp_updL x.2.2.1.2.2.1 3 (x.2.2.1.2.2.1 2)) 1)) 1 ((vp_updL (vp_updL x.2.2.1.2.2.1 3 (x.2.2.1.2.2.1 2)) 2 ((vp_updL x.2.2.1.2.2.1 3 (x.2.2.1.2.2.1 2)) 1)) 0)), (vp_updL (vp_updL (vp_updL x.2.2.1.2.2.2 3 (x.2.2.1.2.2.2 2)) 2 ((vp_updL x.2.2.1.2.2.2 3 (x.2.2.1.2.2.2 2)) 1)) 1 ((vp_updL (vp_updL x.2.2.1.2.2.2 3 (x.2.2.1.2.2.2 2)) 2 ((vp_updL x.2.2.1.2.2.2 3 (x.2.2.1.2.2.2 2)) 1)) 0))), x.2.2.2.1, x.2.2.2.2.1, x.2.2.2.2.2.1, x.2.2.2.2.2.2.1, x.2.2.2.2.2.2.2.1, x.2.2.2.2.2.2.2.2.1, x.2.2.2.2.2.2.2.2.2.1, x.2.2.2.2.2.2.2.2.2.2.1, x.2.2.2.2.2.2.2.2.2.2.2.1, x.2.2.2.2.2.2.2.2.2.2.2.2.1, ((x.2.1 (((2 : Int32) * a0)).toNatClampNeg), (x.2.1 ((((2 : Int32) * a0) + (1 : Int32))).toNatClampNeg)), x.2.2.2.2.2.2.2.2.2.2.2.2.2.2))) hx hb hK hP hD hS 5 1 rfl rfl (inL (by decide)) (by decide) dX5_look_154 rfl (fun H locs hP hD hS => ?_)
        refine lv_iinc (k := 0) (v := (0 : Int32)) (lv' := [(2, .int ((0 : Int32))), (0, .ref (ad 0)), (1, .int (a0))]) hx hb dX5_look_155 hl rfl (by decide) (by decide) rfl (fun ls hl => ?_)
        refine lv_goto (tgt := 109) hx hb dX5_look_158 (by decide) ?_
        refine lv_iload_n hx hb dX5_look_109 rfl (lv_at hl 0 rfl) ?_
        refine lv_if_le (tgt := 161) hx hb dX5_look_110 (by decide) (fun _ => ?_) (fun h9 => absurd (by decide) h9)
        refine lv_aload_n hx hb dX5_look_161 rfl (lv_at hl 1 rfl) ?_
        refine va_get (D := D) (ci := 5) (v := .ref (ad 2)) hx hb hG inX5 hown hK hP 0 rfl rfl 4 (by decide) (hG _ kw252) (fun _ h9 => h9) rfl dX5_look_162 ?_
        refine lv_iconst (v := 0) hx hb dX5_look_165 (by decide) ?_
        refine lv_iload_n hx hb dX5_look_166 rfl (lv_at hl 2 rfl) ?_
        refine si (D := D) (j := 0) (f := (upd (upd (upd x.2.2.1.2.1 3 (x.2.2.1.2.1 2)) 2 ((upd x.2.2.1.2.1 3 (x.2.2.1.2.1 2)) 1)) 1 ((upd (upd x.2.2.1.2.1 3 (x.2.2.1.2.1 2)) 2 ((upd x.2.2.1.2.1 3 (x.2.2.1.2.1 2)) 1)) 0))) (x := a0) (W' := (wM cI cJ ad (x.1, x.2.1, ((x.2.2.1.1 + (1 : Int32)), (upd (upd (upd (upd x.2.2.1.2.1 3 (x.2.2.1.2.1 2)) 2 ((upd x.2.2.1.2.1 3 (x.2.2.1.2.1 2)) 1)) 1 ((upd (upd x.2.2.1.2.1 3 (x.2.2.1.2.1 2)) 2 ((upd x.2.2.1.2.1 3 (x.2.2.1.2.1 2)) 1)) 0)) 0 a0), (vp_updL (vp_updL (vp_updL x.2.2.1.2.2.1 3 (x.2.2.1.2.2.1 2)) 2 ((vp_updL x.2.2.1.2.2.1 3 (x.2.2.1.2.2.1 2)) 1)) 1 ((vp_updL (vp_updL x.2.2.1.2.2.1 3 (x.2.2.1.2.2.1 2)) 2 ((vp_updL x.2.2.1.2.2.1 3 (x.2.2.1.2.2.1 2)) 1)) 0)), (vp_updL (vp_updL (vp_updL x.2.2.1.2.2.2 3 (x.2.2.1.2.2.2 2)) 2 ((vp_updL x.2.2.1.2.2.2 3 (x.2.2.1.2.2.2 2)) 1)) 1 ((vp_updL (vp_updL x.2.2.1.2.2.2 3 (x.2.2.1.2.2.2 2)) 2 ((vp_updL x.2.2.1.2.2.2 3 (x.2.2.1.2.2.2 2)) 1)) 0))), x.2.2.2.1, x.2.2.2.2.1, x.2.2.2.2.2.1, x.2.2.2.2.2.2.1, x.2.2.2.2.2.2.2.1, x.2.2.2.2.2.2.2.2.1, x.2.2.2.2.2.2.2.2.2.1, x.2.2.2.2.2.2.2.2.2.2.1, x.2.2.2.2.2.2.2.2.2.2.2.1, x.2.2.2.2.2.2.2.2.2.2.2.2.1, ((x.2.1 (((2 : Int32) * a0)).toNatClampNeg), (x.2.1 ((((2 : Int32) * a0) + (1 : Int32))).toNatClampNeg)), x.2.2.2.2.2.2.2.2.2.2.2.2.2.2))) hx hb hK hP hD hS 2 0 rfl rfl (inL (by decide)) (by decide) dX5_look_167 rfl (fun H locs hP hD hS => ?_)
        refine lv_aload_n hx hb dX5_look_168 rfl (lv_at hl 1 rfl) ?_
        refine va_get (D := D) (ci := 5) (v := .ref (ad 4)) hx hb hG inX5 hown hK hP 0 rfl rfl 6 (by decide) (hG _ kw259) (fun _ h9 => h9) rfl dX5_look_169 ?_
        refine lv_iconst (v := 0) hx hb dX5_look_172 (by decide) ?_
        refine lv_aload_n hx hb dX5_look_173 rfl (lv_at hl 1 rfl) ?_
        refine va_get (D := D) (ci := 5) (v := .long ((x.2.1 (((2 : Int32) * a0)).toNatClampNeg))) hx hb hG inX5 hown hK hP 0 rfl rfl 34 (by decide) (hG _ kw260) (fun _ h9 => h9) rfl dX5_look_174 ?_
        refine sl (D := D) (j := 0) (f := (vp_updL (vp_updL (vp_updL x.2.2.1.2.2.1 3 (x.2.2.1.2.2.1 2)) 2 ((vp_updL x.2.2.1.2.2.1 3 (x.2.2.1.2.2.1 2)) 1)) 1 ((vp_updL (vp_updL x.2.2.1.2.2.1 3 (x.2.2.1.2.2.1 2)) 2 ((vp_updL x.2.2.1.2.2.1 3 (x.2.2.1.2.2.1 2)) 1)) 0))) (x := (x.2.1 (((2 : Int32) * a0)).toNatClampNeg)) (W' := (wM cI cJ ad (x.1, x.2.1, ((x.2.2.1.1 + (1 : Int32)), (upd (upd (upd (upd x.2.2.1.2.1 3 (x.2.2.1.2.1 2)) 2 ((upd x.2.2.1.2.1 3 (x.2.2.1.2.1 2)) 1)) 1 ((upd (upd x.2.2.1.2.1 3 (x.2.2.1.2.1 2)) 2 ((upd x.2.2.1.2.1 3 (x.2.2.1.2.1 2)) 1)) 0)) 0 a0), (vp_updL (vp_updL (vp_updL (vp_updL x.2.2.1.2.2.1 3 (x.2.2.1.2.2.1 2)) 2 ((vp_updL x.2.2.1.2.2.1 3 (x.2.2.1.2.2.1 2)) 1)) 1 ((vp_updL (vp_updL x.2.2.1.2.2.1 3 (x.2.2.1.2.2.1 2)) 2 ((vp_updL x.2.2.1.2.2.1 3 (x.2.2.1.2.2.1 2)) 1)) 0)) 0 (x.2.1 (((2 : Int32) * a0)).toNatClampNeg)), (vp_updL (vp_updL (vp_updL x.2.2.1.2.2.2 3 (x.2.2.1.2.2.2 2)) 2 ((vp_updL x.2.2.1.2.2.2 3 (x.2.2.1.2.2.2 2)) 1)) 1 ((vp_updL (vp_updL x.2.2.1.2.2.2 3 (x.2.2.1.2.2.2 2)) 2 ((vp_updL x.2.2.1.2.2.2 3 (x.2.2.1.2.2.2 2)) 1)) 0))), x.2.2.2.1, x.2.2.2.2.1, x.2.2.2.2.2.1, x.2.2.2.2.2.2.1, x.2.2.2.2.2.2.2.1, x.2.2.2.2.2.2.2.2.1, x.2.2.2.2.2.2.2.2.2.1, x.2.2.2.2.2.2.2.2.2.2.1, x.2.2.2.2.2.2.2.2.2.2.2.1, x.2.2.2.2.2.2.2.2.2.2.2.2.1, ((x.2.1 (((2 : Int32) * a0)).toNatClampNeg), (x.2.1 ((((2 : Int32) * a0) + (1 : Int32))).toNatClampNeg)), x.2.2.2.2.2.2.2.2.2.2.2.2.2.2))) hx hb hK hP hD hS 4 1 rfl rfl (inL (by decide)) (by decide) dX5_look_177 rfl (fun H locs hP hD hS => ?_)
        refine lv_aload_n hx hb dX5_look_178 rfl (lv_at hl 1 rfl) ?_
        refine va_get (D := D) (ci := 5) (v := .ref (ad 5)) hx hb hG inX5 hown hK hP 0 rfl rfl 7 (by decide) (hG _ kw261) (fun _ h9 => h9) rfl dX5_look_179 ?_
        refine lv_iconst (v := 0) hx hb dX5_look_182 (by decide) ?_
        refine lv_aload_n hx hb dX5_look_183 rfl (lv_at hl 1 rfl) ?_
        refine va_get (D := D) (ci := 5) (v := .long ((x.2.1 ((((2 : Int32) * a0) + (1 : Int32))).toNatClampNeg))) hx hb hG inX5 hown hK hP 0 rfl rfl 35 (by decide) (hG _ kw262) (fun _ h9 => h9) rfl dX5_look_184 ?_
        refine sl (D := D) (j := 0) (f := (vp_updL (vp_updL (vp_updL x.2.2.1.2.2.2 3 (x.2.2.1.2.2.2 2)) 2 ((vp_updL x.2.2.1.2.2.2 3 (x.2.2.1.2.2.2 2)) 1)) 1 ((vp_updL (vp_updL x.2.2.1.2.2.2 3 (x.2.2.1.2.2.2 2)) 2 ((vp_updL x.2.2.1.2.2.2 3 (x.2.2.1.2.2.2 2)) 1)) 0))) (x := (x.2.1 ((((2 : Int32) * a0) + (1 : Int32))).toNatClampNeg)) (W' := (wM cI cJ ad (x.1, x.2.1, ((x.2.2.1.1 + (1 : Int32)), (upd (upd (upd (upd x.2.2.1.2.1 3 (x.2.2.1.2.1 2)) 2 ((upd x.2.2.1.2.1 3 (x.2.2.1.2.1 2)) 1)) 1 ((upd (upd x.2.2.1.2.1 3 (x.2.2.1.2.1 2)) 2 ((upd x.2.2.1.2.1 3 (x.2.2.1.2.1 2)) 1)) 0)) 0 a0), (vp_updL (vp_updL (vp_updL (vp_updL x.2.2.1.2.2.1 3 (x.2.2.1.2.2.1 2)) 2 ((vp_updL x.2.2.1.2.2.1 3 (x.2.2.1.2.2.1 2)) 1)) 1 ((vp_updL (vp_updL x.2.2.1.2.2.1 3 (x.2.2.1.2.2.1 2)) 2 ((vp_updL x.2.2.1.2.2.1 3 (x.2.2.1.2.2.1 2)) 1)) 0)) 0 (x.2.1 (((2 : Int32) * a0)).toNatClampNeg)), (vp_updL (vp_updL (vp_updL (vp_updL x.2.2.1.2.2.2 3 (x.2.2.1.2.2.2 2)) 2 ((vp_updL x.2.2.1.2.2.2 3 (x.2.2.1.2.2.2 2)) 1)) 1 ((vp_updL (vp_updL x.2.2.1.2.2.2 3 (x.2.2.1.2.2.2 2)) 2 ((vp_updL x.2.2.1.2.2.2 3 (x.2.2.1.2.2.2 2)) 1)) 0)) 0 (x.2.1 ((((2 : Int32) * a0) + (1 : Int32))).toNatClampNeg))), x.2.2.2.1, x.2.2.2.2.1, x.2.2.2.2.2.1, x.2.2.2.2.2.2.1, x.2.2.2.2.2.2.2.1, x.2.2.2.2.2.2.2.2.1, x.2.2.2.2.2.2.2.2.2.1, x.2.2.2.2.2.2.2.2.2.2.1, x.2.2.2.2.2.2.2.2.2.2.2.1, x.2.2.2.2.2.2.2.2.2.2.2.2.1, ((x.2.1 (((2 : Int32) * a0)).toNatClampNeg), (x.2.1 ((((2 : Int32) * a0) + (1 : Int32))).toNatClampNeg)), x.2.2.2.2.2.2.2.2.2.2.2.2.2.2))) hx hb hK hP hD hS 5 1 rfl rfl (inL (by decide)) (by decide) dX5_look_187 rfl (fun H locs hP hD hS => ?_)
        exact retv (u := (x.1, x.2.1, ((x.2.2.1.1 + (1 : Int32)), (upd (upd (upd (upd x.2.2.1.2.1 3 (x.2.2.1.2.1 2)) 2 ((upd x.2.2.1.2.1 3 (x.2.2.1.2.1 2)) 1)) 1 ((upd (upd x.2.2.1.2.1 3 (x.2.2.1.2.1 2)) 2 ((upd x.2.2.1.2.1 3 (x.2.2.1.2.1 2)) 1)) 0)) 0 a0), (vp_updL (vp_updL (vp_updL (vp_updL x.2.2.1.2.2.1 3 (x.2.2.1.2.2.1 2)) 2 ((vp_updL x.2.2.1.2.2.1 3 (x.2.2.1.2.2.1 2)) 1)) 1 ((vp_updL (vp_updL x.2.2.1.2.2.1 3 (x.2.2.1.2.2.1 2)) 2 ((vp_updL x.2.2.1.2.2.1 3 (x.2.2.1.2.2.1 2)) 1)) 0)) 0 (x.2.1 (((2 : Int32) * a0)).toNatClampNeg)), (vp_updL (vp_updL (vp_updL (vp_updL x.2.2.1.2.2.2 3 (x.2.2.1.2.2.2 2)) 2 ((vp_updL x.2.2.1.2.2.2 3 (x.2.2.1.2.2.2 2)) 1)) 1 ((vp_updL (vp_updL x.2.2.1.2.2.2 3 (x.2.2.1.2.2.2 2)) 2 ((vp_updL x.2.2.1.2.2.2 3 (x.2.2.1.2.2.2 2)) 1)) 0)) 0 (x.2.1 ((((2 : Int32) * a0) + (1 : Int32))).toNatClampNeg))), x.2.2.2.1, x.2.2.2.2.1, x.2.2.2.2.2.1, x.2.2.2.2.2.2.1, x.2.2.2.2.2.2.2.1, x.2.2.2.2.2.2.2.2.1, x.2.2.2.2.2.2.2.2.2.1, x.2.2.2.2.2.2.2.2.2.2.1, x.2.2.2.2.2.2.2.2.2.2.2.1, x.2.2.2.2.2.2.2.2.2.2.2.2.1, ((x.2.1 (((2 : Int32) * a0)).toNatClampNeg), (x.2.1 ((((2 : Int32) * a0) + (1 : Int32))).toNatClampNeg)), x.2.2.2.2.2.2.2.2.2.2.2.2.2.2)) hx hb hr hlocks hK hP hD hS dX5_look_188 (by unfold fnX5_look; rw [← q1]; (try dsimp only); rw [if_neg h2]; rw [if_neg h7]; rw [if_neg h8]; rw [if_neg h9]; rw [if_neg h10]; rw [if_neg h11]; (try exact rfl))
    · exact retv (u := (x.1, x.2.1, x.2.2.1, x.2.2.2.1, x.2.2.2.2.1, x.2.2.2.2.2.1, x.2.2.2.2.2.2.1, x.2.2.2.2.2.2.2.1, x.2.2.2.2.2.2.2.2.1, x.2.2.2.2.2.2.2.2.2.1, x.2.2.2.2.2.2.2.2.2.2.1, x.2.2.2.2.2.2.2.2.2.2.2.1, x.2.2.2.2.2.2.2.2.2.2.2.2.1, ((x.2.1 (((2 : Int32) * a0)).toNatClampNeg), (x.2.1 ((((2 : Int32) * a0) + (1 : Int32))).toNatClampNeg)), x.2.2.2.2.2.2.2.2.2.2.2.2.2.2)) hx hb hr hlocks hK hP hD hS dX5_look_75 (by unfold fnX5_look; rw [← q1]; (try dsimp only); rw [if_neg h2]; rw [if_pos h7]; (try exact rfl))
def fnX5_lookPage (x : TM) (a0 : Int32) (a1 : Int32) (a2 : Int32) : Int64 × TM :=
  let p1 := fnX5_findPage x a0 a1
  if (0 : Int32) ≤ p1 then
   if p1 = (0 : Int32) then
    ((x.2.2.2.1.2.2 (p1).toNatClampNeg), (x.1, x.2.1, x.2.2.1, (x.2.2.2.1.1, (upd x.2.2.2.1.2.1 0 (((64 : Int32) * a0) + a1)), (vp_updL x.2.2.2.1.2.2 0 (x.2.2.2.1.2.2 (p1).toNatClampNeg))), x.2.2.2.2.1, x.2.2.2.2.2.1, x.2.2.2.2.2.2.1, x.2.2.2.2.2.2.2.1, x.2.2.2.2.2.2.2.2.1, x.2.2.2.2.2.2.2.2.2.1, x.2.2.2.2.2.2.2.2.2.2.1, x.2.2.2.2.2.2.2.2.2.2.2.1, x.2.2.2.2.2.2.2.2.2.2.2.2.1, x.2.2.2.2.2.2.2.2.2.2.2.2.2.1, x.2.2.2.2.2.2.2.2.2.2.2.2.2.2))
   else
    if p1 = (1 : Int32) then
     ((x.2.2.2.1.2.2 (p1).toNatClampNeg), (x.1, x.2.1, x.2.2.1, (x.2.2.2.1.1, (upd (upd x.2.2.2.1.2.1 1 (x.2.2.2.1.2.1 0)) 0 (((64 : Int32) * a0) + a1)), (vp_updL (vp_updL x.2.2.2.1.2.2 1 (x.2.2.2.1.2.2 0)) 0 (x.2.2.2.1.2.2 (p1).toNatClampNeg))), x.2.2.2.2.1, x.2.2.2.2.2.1, x.2.2.2.2.2.2.1, x.2.2.2.2.2.2.2.1, x.2.2.2.2.2.2.2.2.1, x.2.2.2.2.2.2.2.2.2.1, x.2.2.2.2.2.2.2.2.2.2.1, x.2.2.2.2.2.2.2.2.2.2.2.1, x.2.2.2.2.2.2.2.2.2.2.2.2.1, x.2.2.2.2.2.2.2.2.2.2.2.2.2.1, x.2.2.2.2.2.2.2.2.2.2.2.2.2.2))
    else
     if p1 = (2 : Int32) then
      ((x.2.2.2.1.2.2 (p1).toNatClampNeg), (x.1, x.2.1, x.2.2.1, (x.2.2.2.1.1, (upd (upd (upd x.2.2.2.1.2.1 2 (x.2.2.2.1.2.1 1)) 1 ((upd x.2.2.2.1.2.1 2 (x.2.2.2.1.2.1 1)) 0)) 0 (((64 : Int32) * a0) + a1)), (vp_updL (vp_updL (vp_updL x.2.2.2.1.2.2 2 (x.2.2.2.1.2.2 1)) 1 ((vp_updL x.2.2.2.1.2.2 2 (x.2.2.2.1.2.2 1)) 0)) 0 (x.2.2.2.1.2.2 (p1).toNatClampNeg))), x.2.2.2.2.1, x.2.2.2.2.2.1, x.2.2.2.2.2.2.1, x.2.2.2.2.2.2.2.1, x.2.2.2.2.2.2.2.2.1, x.2.2.2.2.2.2.2.2.2.1, x.2.2.2.2.2.2.2.2.2.2.1, x.2.2.2.2.2.2.2.2.2.2.2.1, x.2.2.2.2.2.2.2.2.2.2.2.2.1, x.2.2.2.2.2.2.2.2.2.2.2.2.2.1, x.2.2.2.2.2.2.2.2.2.2.2.2.2.2))
     else
      ((x.2.2.2.1.2.2 (p1).toNatClampNeg), (x.1, x.2.1, x.2.2.1, (x.2.2.2.1.1, (upd (upd (upd (upd x.2.2.2.1.2.1 3 (x.2.2.2.1.2.1 2)) 2 ((upd x.2.2.2.1.2.1 3 (x.2.2.2.1.2.1 2)) 1)) 1 ((upd (upd x.2.2.2.1.2.1 3 (x.2.2.2.1.2.1 2)) 2 ((upd x.2.2.2.1.2.1 3 (x.2.2.2.1.2.1 2)) 1)) 0)) 0 (((64 : Int32) * a0) + a1)), (vp_updL (vp_updL (vp_updL (vp_updL x.2.2.2.1.2.2 3 (x.2.2.2.1.2.2 2)) 2 ((vp_updL x.2.2.2.1.2.2 3 (x.2.2.2.1.2.2 2)) 1)) 1 ((vp_updL (vp_updL x.2.2.2.1.2.2 3 (x.2.2.2.1.2.2 2)) 2 ((vp_updL x.2.2.2.1.2.2 3 (x.2.2.2.1.2.2 2)) 1)) 0)) 0 (x.2.2.2.1.2.2 (p1).toNatClampNeg))), x.2.2.2.2.1, x.2.2.2.2.2.1, x.2.2.2.2.2.2.1, x.2.2.2.2.2.2.2.1, x.2.2.2.2.2.2.2.2.1, x.2.2.2.2.2.2.2.2.2.1, x.2.2.2.2.2.2.2.2.2.2.1, x.2.2.2.2.2.2.2.2.2.2.2.1, x.2.2.2.2.2.2.2.2.2.2.2.2.1, x.2.2.2.2.2.2.2.2.2.2.2.2.2.1, x.2.2.2.2.2.2.2.2.2.2.2.2.2.2))
  else
   if ((x.2.1 (a2).toNatClampNeg) &&& (34359738368 : Int64)) = (0 : Int64) then
    ((x.2.1 (a2).toNatClampNeg), x)
   else
    if (4 : Int32) ≤ x.2.2.2.1.1 then
     (((x.2.1 (a2).toNatClampNeg) ||| (17179869184 : Int64)), (x.1, (vp_updL x.2.1 (a2).toNatClampNeg ((x.2.1 (a2).toNatClampNeg) ||| (17179869184 : Int64))), x.2.2.1, ((4 : Int32), (upd (upd (upd (upd x.2.2.2.1.2.1 3 (x.2.2.2.1.2.1 2)) 2 ((upd x.2.2.2.1.2.1 3 (x.2.2.2.1.2.1 2)) 1)) 1 ((upd (upd x.2.2.2.1.2.1 3 (x.2.2.2.1.2.1 2)) 2 ((upd x.2.2.2.1.2.1 3 (x.2.2.2.1.2.1 2)) 1)) 0)) 0 (((64 : Int32) * a0) + a1)), (vp_updL (vp_updL (vp_updL (vp_updL x.2.2.2.1.2.2 3 (x.2.2.2.1.2.2 2)) 2 ((vp_updL x.2.2.2.1.2.2 3 (x.2.2.2.1.2.2 2)) 1)) 1 ((vp_updL (vp_updL x.2.2.2.1.2.2 3 (x.2.2.2.1.2.2 2)) 2 ((vp_updL x.2.2.2.1.2.2 3 (x.2.2.2.1.2.2 2)) 1)) 0)) 0 ((x.2.1 (a2).toNatClampNeg) ||| (17179869184 : Int64)))), x.2.2.2.2.1, x.2.2.2.2.2.1, x.2.2.2.2.2.2.1, x.2.2.2.2.2.2.2.1, x.2.2.2.2.2.2.2.2.1, x.2.2.2.2.2.2.2.2.2.1, x.2.2.2.2.2.2.2.2.2.2.1, x.2.2.2.2.2.2.2.2.2.2.2.1, x.2.2.2.2.2.2.2.2.2.2.2.2.1, x.2.2.2.2.2.2.2.2.2.2.2.2.2.1, x.2.2.2.2.2.2.2.2.2.2.2.2.2.2))
    else
     if ((x.2.2.2.1.1 + (1 : Int32)) - (1 : Int32)) = (0 : Int32) then
      (((x.2.1 (a2).toNatClampNeg) ||| (17179869184 : Int64)), (x.1, (vp_updL x.2.1 (a2).toNatClampNeg ((x.2.1 (a2).toNatClampNeg) ||| (17179869184 : Int64))), x.2.2.1, ((x.2.2.2.1.1 + (1 : Int32)), (upd x.2.2.2.1.2.1 0 (((64 : Int32) * a0) + a1)), (vp_updL x.2.2.2.1.2.2 0 ((x.2.1 (a2).toNatClampNeg) ||| (17179869184 : Int64)))), x.2.2.2.2.1, x.2.2.2.2.2.1, x.2.2.2.2.2.2.1, x.2.2.2.2.2.2.2.1, x.2.2.2.2.2.2.2.2.1, x.2.2.2.2.2.2.2.2.2.1, x.2.2.2.2.2.2.2.2.2.2.1, x.2.2.2.2.2.2.2.2.2.2.2.1, x.2.2.2.2.2.2.2.2.2.2.2.2.1, x.2.2.2.2.2.2.2.2.2.2.2.2.2.1, x.2.2.2.2.2.2.2.2.2.2.2.2.2.2))
     else
      if ((x.2.2.2.1.1 + (1 : Int32)) - (1 : Int32)) = (1 : Int32) then
       (((x.2.1 (a2).toNatClampNeg) ||| (17179869184 : Int64)), (x.1, (vp_updL x.2.1 (a2).toNatClampNeg ((x.2.1 (a2).toNatClampNeg) ||| (17179869184 : Int64))), x.2.2.1, ((x.2.2.2.1.1 + (1 : Int32)), (upd (upd x.2.2.2.1.2.1 1 (x.2.2.2.1.2.1 0)) 0 (((64 : Int32) * a0) + a1)), (vp_updL (vp_updL x.2.2.2.1.2.2 1 (x.2.2.2.1.2.2 0)) 0 ((x.2.1 (a2).toNatClampNeg) ||| (17179869184 : Int64)))), x.2.2.2.2.1, x.2.2.2.2.2.1, x.2.2.2.2.2.2.1, x.2.2.2.2.2.2.2.1, x.2.2.2.2.2.2.2.2.1, x.2.2.2.2.2.2.2.2.2.1, x.2.2.2.2.2.2.2.2.2.2.1, x.2.2.2.2.2.2.2.2.2.2.2.1, x.2.2.2.2.2.2.2.2.2.2.2.2.1, x.2.2.2.2.2.2.2.2.2.2.2.2.2.1, x.2.2.2.2.2.2.2.2.2.2.2.2.2.2))
      else
       if ((x.2.2.2.1.1 + (1 : Int32)) - (1 : Int32)) = (2 : Int32) then
        (((x.2.1 (a2).toNatClampNeg) ||| (17179869184 : Int64)), (x.1, (vp_updL x.2.1 (a2).toNatClampNeg ((x.2.1 (a2).toNatClampNeg) ||| (17179869184 : Int64))), x.2.2.1, ((x.2.2.2.1.1 + (1 : Int32)), (upd (upd (upd x.2.2.2.1.2.1 2 (x.2.2.2.1.2.1 1)) 1 ((upd x.2.2.2.1.2.1 2 (x.2.2.2.1.2.1 1)) 0)) 0 (((64 : Int32) * a0) + a1)), (vp_updL (vp_updL (vp_updL x.2.2.2.1.2.2 2 (x.2.2.2.1.2.2 1)) 1 ((vp_updL x.2.2.2.1.2.2 2 (x.2.2.2.1.2.2 1)) 0)) 0 ((x.2.1 (a2).toNatClampNeg) ||| (17179869184 : Int64)))), x.2.2.2.2.1, x.2.2.2.2.2.1, x.2.2.2.2.2.2.1, x.2.2.2.2.2.2.2.1, x.2.2.2.2.2.2.2.2.1, x.2.2.2.2.2.2.2.2.2.1, x.2.2.2.2.2.2.2.2.2.2.1, x.2.2.2.2.2.2.2.2.2.2.2.1, x.2.2.2.2.2.2.2.2.2.2.2.2.1, x.2.2.2.2.2.2.2.2.2.2.2.2.2.1, x.2.2.2.2.2.2.2.2.2.2.2.2.2.2))
       else
        (((x.2.1 (a2).toNatClampNeg) ||| (17179869184 : Int64)), (x.1, (vp_updL x.2.1 (a2).toNatClampNeg ((x.2.1 (a2).toNatClampNeg) ||| (17179869184 : Int64))), x.2.2.1, ((x.2.2.2.1.1 + (1 : Int32)), (upd (upd (upd (upd x.2.2.2.1.2.1 3 (x.2.2.2.1.2.1 2)) 2 ((upd x.2.2.2.1.2.1 3 (x.2.2.2.1.2.1 2)) 1)) 1 ((upd (upd x.2.2.2.1.2.1 3 (x.2.2.2.1.2.1 2)) 2 ((upd x.2.2.2.1.2.1 3 (x.2.2.2.1.2.1 2)) 1)) 0)) 0 (((64 : Int32) * a0) + a1)), (vp_updL (vp_updL (vp_updL (vp_updL x.2.2.2.1.2.2 3 (x.2.2.2.1.2.2 2)) 2 ((vp_updL x.2.2.2.1.2.2 3 (x.2.2.2.1.2.2 2)) 1)) 1 ((vp_updL (vp_updL x.2.2.2.1.2.2 3 (x.2.2.2.1.2.2 2)) 2 ((vp_updL x.2.2.2.1.2.2 3 (x.2.2.2.1.2.2 2)) 1)) 0)) 0 ((x.2.1 (a2).toNatClampNeg) ||| (17179869184 : Int64)))), x.2.2.2.2.1, x.2.2.2.2.2.1, x.2.2.2.2.2.2.1, x.2.2.2.2.2.2.2.1, x.2.2.2.2.2.2.2.2.1, x.2.2.2.2.2.2.2.2.2.1, x.2.2.2.2.2.2.2.2.2.2.1, x.2.2.2.2.2.2.2.2.2.2.2.1, x.2.2.2.2.2.2.2.2.2.2.2.2.1, x.2.2.2.2.2.2.2.2.2.2.2.2.2.1, x.2.2.2.2.2.2.2.2.2.2.2.2.2.2))
abbrev ivX5_lookPageP (z : Int64 × TM) : Prop := iM z.2
set_option maxRecDepth 100000 in
set_option maxHeartbeats 4000000 in
theorem ivX5_lookPage (x : TM) (a0 : Int32) (a1 : Int32) (a2 : Int32) (hI : iM x) (g2 : i12 a2) : ivX5_lookPageP (fnX5_lookPage x a0 a1 a2) := by
  unfold fnX5_lookPage
  try dsimp only
  have j1 : ivX5_findPageP (fnX5_findPage x a0 a1) := ivX5_findPage x a0 a1 hI
  generalize fnX5_findPage x a0 a1 = p1 at j1 ⊢
  refine iteI (fun h2 => ?_) (fun h2 => ?_)
  · refine iteI (fun h3 => ?_) (fun h3 => ?_)
    · exact ⟨hI.1, hI.2.1, hI.2.2.1, hI.2.2.2.1, hI.2.2.2.2.1, hI.2.2.2.2.2.1, hI.2.2.2.2.2.2.1, hI.2.2.2.2.2.2.2⟩
    · refine iteI (fun h4 => ?_) (fun h4 => ?_)
      · exact ⟨hI.1, hI.2.1, hI.2.2.1, hI.2.2.2.1, hI.2.2.2.2.1, hI.2.2.2.2.2.1, hI.2.2.2.2.2.2.1, hI.2.2.2.2.2.2.2⟩
      · refine iteI (fun h5 => ?_) (fun h5 => ?_)
        · exact ⟨hI.1, hI.2.1, hI.2.2.1, hI.2.2.2.1, hI.2.2.2.2.1, hI.2.2.2.2.2.1, hI.2.2.2.2.2.2.1, hI.2.2.2.2.2.2.2⟩
        · exact ⟨hI.1, hI.2.1, hI.2.2.1, hI.2.2.2.1, hI.2.2.2.2.1, hI.2.2.2.2.2.1, hI.2.2.2.2.2.2.1, hI.2.2.2.2.2.2.2⟩
  · refine iteI (fun h7 => ?_) (fun h7 => ?_)
    · exact hI
    · refine iteI (fun h8 => ?_) (fun h8 => ?_)
      · exact ⟨hI.1, (show i5 (4 : Int32) from by decide), hI.2.2.1, hI.2.2.2.1, hI.2.2.2.2.1, hI.2.2.2.2.2.1, hI.2.2.2.2.2.2.1, hI.2.2.2.2.2.2.2⟩
      · refine iteI (fun h9 => ?_) (fun h9 => ?_)
        · exact ⟨hI.1, (addC hI.2.1 h8), hI.2.2.1, hI.2.2.2.1, hI.2.2.2.2.1, hI.2.2.2.2.2.1, hI.2.2.2.2.2.2.1, hI.2.2.2.2.2.2.2⟩
        · refine iteI (fun h10 => ?_) (fun h10 => ?_)
          · exact ⟨hI.1, (addC hI.2.1 h8), hI.2.2.1, hI.2.2.2.1, hI.2.2.2.2.1, hI.2.2.2.2.2.1, hI.2.2.2.2.2.2.1, hI.2.2.2.2.2.2.2⟩
          · refine iteI (fun h11 => ?_) (fun h11 => ?_)
            · exact ⟨hI.1, (addC hI.2.1 h8), hI.2.2.1, hI.2.2.2.1, hI.2.2.2.2.1, hI.2.2.2.2.2.1, hI.2.2.2.2.2.2.1, hI.2.2.2.2.2.2.2⟩
            · exact ⟨hI.1, (addC hI.2.1 h8), hI.2.2.1, hI.2.2.2.1, hI.2.2.2.2.1, hI.2.2.2.2.2.1, hI.2.2.2.2.2.2.1, hI.2.2.2.2.2.2.2⟩
set_option maxRecDepth 100000 in
set_option maxHeartbeats 4000000 in
theorem okX5_lookPage (l : Launch) (D : va_G) (cI cJ cP : ClassId) (ad : Nat → Nat) (sz : Nat) (x : TM) (a0 : Int32) (a1 : Int32) (a2 : Int32) (hI : iM x) (g2 : i12 a2) : Met l yX5_lookPage (Cond.code yX5_lookPage cX5_lookPage 7 (some .long) :: gG) { frames := 1, cells := 0, slots := 0, locals := 23 } (va_Pc [.ref (ad 0), .int a0, .int a1, .int a2] (PRE D (tz cI cJ cP) sz (wM cI cJ ad x))) (va_Ql (fun (r : Int64) (u : TM) => (r, u) = fnX5_lookPage x a0 a1 a2) (AT D (tz cI cJ cP) (va_A (wM cI cJ ad x) sz) (fun (u : TM) => (wM cI cJ ad u))) (va_A (wM cI cJ ad x) sz)) 0 0 (va_A (wM cI cJ ad x) sz) := by
  refine mo (QA := fun A => va_Ql (fun (r : Int64) (u : TM) => (r, u) = fnX5_lookPage x a0 a1 a2) (AT D (tz cI cJ cP) A (fun (u : TM) => (wM cI cJ ad u))) A) (by decide) (Nat.le_of_ble_eq_true rfl) ?_
  intro p e s m below meth c A ls H hx hb hr hml hown hG hlocks hnm hA hS hP hK hD hl hN
  have hown : s.vm.findClass RX5 = some m.cls := hown
  have hl : lv_has ls 7 [(0, .ref (ad 0)), (1, .int a0), (2, .int a1), (3, .int a2)] := hl
  refine lv_aload_n hx hb dX5_lookPage_0 rfl (lv_at hl 0 rfl) ?_
  refine lv_iload_n hx hb dX5_lookPage_1 rfl (lv_at hl 1 rfl) ?_
  refine lv_iload_n hx hb dX5_lookPage_2 rfl (lv_at hl 2 rfl) ?_
  refine kFi (As := [.int (a0), .int (a1)]) (rest := []) hx hb hml hown hG hl (okX5_findPage l D cI cJ cP ad H.size x a0 a1 hI) (cV 2 hG kw264 kw265 kw266 kw267 kw238 hdX5_findPage ⟨by decide, by decide⟩) 0 5 rfl rfl hK hP hD hS hA hN rfl rfl (Nat.le_of_ble_eq_true rfl) dX5_lookPage_3 ⟨Nat.zero_le _, Nat.zero_le _⟩ (fun r1 _ q1 H locs hP hD hS => ?_)
  have j1 : ivX5_findPageP r1 := by rw [q1]; exact ivX5_findPage x a0 a1 hI
  refine lv_istore (lv' := [(4, .int (r1)), (0, .ref (ad 0)), (1, .int (a0)), (2, .int (a1)), (3, .int (a2))]) hx hb dX5_lookPage_6 hl (by decide) rfl (fun ls hl => ?_)
  refine lv_iload hx hb dX5_lookPage_8 (lv_at hl 0 rfl) ?_
  refine lv_if_ge (tgt := 22) hx hb dX5_lookPage_10 (by decide) (fun h2 => ?_) (fun h2 => ?_)
  · refine lv_aload_n hx hb dX5_lookPage_22 rfl (lv_at hl 1 rfl) ?_
    refine va_get (D := D) (ci := 5) (v := .ref (ad 6)) hx hb hG inX5 hown hK hP 0 rfl rfl 8 (by decide) (hG _ kw268) (fun _ h9 => h9) rfl dX5_lookPage_23 ?_
    refine lv_iload hx hb dX5_lookPage_26 (lv_at hl 0 rfl) ?_
    refine gl (D := D) (j := (r1).toNatClampNeg) (f := x.2.2.2.1.2.2) hx hb hK hP 6 1 rfl rfl (in2_5 (plN j1 (Int32.not_lt.mpr h2))) rfl dX5_lookPage_28 ?_
    refine lv_lstore (lv' := [(5, .long ((x.2.2.2.1.2.2 (r1).toNatClampNeg))), (4, .int (r1)), (0, .ref (ad 0)), (1, .int (a0)), (2, .int (a1)), (3, .int (a2))]) hx hb dX5_lookPage_29 hl (by decide) rfl (fun ls hl => ?_)
    refine lv_iload hx hb dX5_lookPage_31 (lv_at hl 1 rfl) ?_
    refine lv_if_ge (tgt := 50) hx hb dX5_lookPage_33 (by decide) (fun _ => ?_) (fun h9 => absurd h2 h9)
    refine lv_iload hx hb dX5_lookPage_50 (lv_at hl 1 rfl) ?_
    refine lv_if_ge (tgt := 101) hx hb dX5_lookPage_52 (by decide) (fun _ => ?_) (fun h9 => absurd h2 h9)
    by_cases h3 : r1 = (0 : Int32)
    · have hl : lv_has ls 7 [(4, .int ((0 : Int32))), (5, .long ((x.2.2.2.1.2.2 (r1).toNatClampNeg))), (0, .ref (ad 0)), (1, .int (a0)), (2, .int (a1)), (3, .int (a2))] := lvc h3 (lv_sub hl [1, 0, 2, 3, 4, 5] rfl)
      refine lv_iload hx hb dX5_lookPage_101 (lv_at hl 0 rfl) ?_
      refine lv_if_le (tgt := 144) hx hb dX5_lookPage_103 (by decide) (fun _ => ?_) (fun h9 => absurd (by decide) h9)
      refine lv_aload_n hx hb dX5_lookPage_144 rfl (lv_at hl 2 rfl) ?_
      refine va_get (D := D) (ci := 5) (v := .ref (ad 3)) hx hb hG inX5 hown hK hP 0 rfl rfl 5 (by decide) (hG _ kw254) (fun _ h9 => h9) rfl dX5_lookPage_145 ?_
      refine lv_iconst (v := 0) hx hb dX5_lookPage_148 (by decide) ?_
      refine lv_bipush (v := 64) hx hb dX5_lookPage_149 (by decide) ?_
      refine lv_iload_n hx hb dX5_lookPage_151 rfl (lv_at hl 3 rfl) ?_
      refine lv_imul hx hb dX5_lookPage_152 ?_
      refine lv_iload_n hx hb dX5_lookPage_153 rfl (lv_at hl 4 rfl) ?_
      refine lv_iadd hx hb dX5_lookPage_154 ?_
      refine si (D := D) (j := 0) (f := x.2.2.2.1.2.1) (x := (((64 : Int32) * a0) + a1)) (W' := (wM cI cJ ad (x.1, x.2.1, x.2.2.1, (x.2.2.2.1.1, (upd x.2.2.2.1.2.1 0 (((64 : Int32) * a0) + a1)), x.2.2.2.1.2.2), x.2.2.2.2.1, x.2.2.2.2.2.1, x.2.2.2.2.2.2.1, x.2.2.2.2.2.2.2.1, x.2.2.2.2.2.2.2.2.1, x.2.2.2.2.2.2.2.2.2.1, x.2.2.2.2.2.2.2.2.2.2.1, x.2.2.2.2.2.2.2.2.2.2.2.1, x.2.2.2.2.2.2.2.2.2.2.2.2.1, x.2.2.2.2.2.2.2.2.2.2.2.2.2.1, x.2.2.2.2.2.2.2.2.2.2.2.2.2.2))) hx hb hK hP hD hS 3 0 rfl rfl (inL (by decide)) (by decide) dX5_lookPage_155 rfl (fun H locs hP hD hS => ?_)
      refine lv_aload_n hx hb dX5_lookPage_156 rfl (lv_at hl 2 rfl) ?_
      refine va_get (D := D) (ci := 5) (v := .ref (ad 6)) hx hb hG inX5 hown hK hP 0 rfl rfl 8 (by decide) (hG _ kw268) (fun _ h9 => h9) rfl dX5_lookPage_157 ?_
      refine lv_iconst (v := 0) hx hb dX5_lookPage_160 (by decide) ?_
      refine lv_lload hx hb dX5_lookPage_161 (lv_at hl 1 rfl) ?_
      refine sl (D := D) (j := 0) (f := x.2.2.2.1.2.2) (x := (x.2.2.2.1.2.2 (r1).toNatClampNeg)) (W' := (wM cI cJ ad (x.1, x.2.1, x.2.2.1, (x.2.2.2.1.1, (upd x.2.2.2.1.2.1 0 (((64 : Int32) * a0) + a1)), (vp_updL x.2.2.2.1.2.2 0 (x.2.2.2.1.2.2 (r1).toNatClampNeg))), x.2.2.2.2.1, x.2.2.2.2.2.1, x.2.2.2.2.2.2.1, x.2.2.2.2.2.2.2.1, x.2.2.2.2.2.2.2.2.1, x.2.2.2.2.2.2.2.2.2.1, x.2.2.2.2.2.2.2.2.2.2.1, x.2.2.2.2.2.2.2.2.2.2.2.1, x.2.2.2.2.2.2.2.2.2.2.2.2.1, x.2.2.2.2.2.2.2.2.2.2.2.2.2.1, x.2.2.2.2.2.2.2.2.2.2.2.2.2.2))) hx hb hK hP hD hS 6 1 rfl rfl (inL (by decide)) (by decide) dX5_lookPage_163 rfl (fun H locs hP hD hS => ?_)
      refine lv_lload hx hb dX5_lookPage_164 (lv_at hl 1 rfl) ?_
      exact retl (u := (x.1, x.2.1, x.2.2.1, (x.2.2.2.1.1, (upd x.2.2.2.1.2.1 0 (((64 : Int32) * a0) + a1)), (vp_updL x.2.2.2.1.2.2 0 (x.2.2.2.1.2.2 (r1).toNatClampNeg))), x.2.2.2.2.1, x.2.2.2.2.2.1, x.2.2.2.2.2.2.1, x.2.2.2.2.2.2.2.1, x.2.2.2.2.2.2.2.2.1, x.2.2.2.2.2.2.2.2.2.1, x.2.2.2.2.2.2.2.2.2.2.1, x.2.2.2.2.2.2.2.2.2.2.2.1, x.2.2.2.2.2.2.2.2.2.2.2.2.1, x.2.2.2.2.2.2.2.2.2.2.2.2.2.1, x.2.2.2.2.2.2.2.2.2.2.2.2.2.2)) hx hb hr hlocks hK hP hD hS dX5_lookPage_166 (by unfold fnX5_lookPage; rw [← q1]; (try dsimp only); rw [if_pos h2]; rw [if_pos h3]; (try exact rfl))
    by_cases h4 : r1 = (1 : Int32)
    · have hl : lv_has ls 7 [(4, .int ((1 : Int32))), (5, .long ((x.2.2.2.1.2.2 (r1).toNatClampNeg))), (0, .ref (ad 0)), (1, .int (a0)), (2, .int (a1)), (3, .int (a2))] := lvc h4 (lv_sub hl [1, 0, 2, 3, 4, 5] rfl)
      refine lv_iload hx hb dX5_lookPage_101 (lv_at hl 0 rfl) ?_
      refine lv_if_le (tgt := 144) hx hb dX5_lookPage_103 (by decide) (fun h9 => absurd h9 (by decide)) (fun _ => ?_)
      refine lv_aload_n hx hb dX5_lookPage_106 rfl (lv_at hl 2 rfl) ?_
      refine va_get (D := D) (ci := 5) (v := .ref (ad 3)) hx hb hG inX5 hown hK hP 0 rfl rfl 5 (by decide) (hG _ kw254) (fun _ h9 => h9) rfl dX5_lookPage_107 ?_
      refine lv_iload hx hb dX5_lookPage_110 (lv_at hl 0 rfl) ?_
      refine lv_aload_n hx hb dX5_lookPage_112 rfl (lv_at hl 2 rfl) ?_
      refine va_get (D := D) (ci := 5) (v := .ref (ad 3)) hx hb hG inX5 hown hK hP 0 rfl rfl 5 (by decide) (hG _ kw254) (fun _ h9 => h9) rfl dX5_lookPage_113 ?_
      refine lv_iload hx hb dX5_lookPage_116 (lv_at hl 0 rfl) ?_
      refine lv_iconst (v := 1) hx hb dX5_lookPage_118 (by decide) ?_
      refine lv_isub hx hb dX5_lookPage_119 ?_
      refine tI (y := 0) (by decide) ?_
      refine gi (D := D) (j := 0) (f := x.2.2.2.1.2.1) hx hb hK hP 3 0 rfl rfl (inL (by decide)) (by decide) dX5_lookPage_120 ?_
      refine si (D := D) (j := 1) (f := x.2.2.2.1.2.1) (x := (x.2.2.2.1.2.1 0)) (W' := (wM cI cJ ad (x.1, x.2.1, x.2.2.1, (x.2.2.2.1.1, (upd x.2.2.2.1.2.1 1 (x.2.2.2.1.2.1 0)), x.2.2.2.1.2.2), x.2.2.2.2.1, x.2.2.2.2.2.1, x.2.2.2.2.2.2.1, x.2.2.2.2.2.2.2.1, x.2.2.2.2.2.2.2.2.1, x.2.2.2.2.2.2.2.2.2.1, x.2.2.2.2.2.2.2.2.2.2.1, x.2.2.2.2.2.2.2.2.2.2.2.1, x.2.2.2.2.2.2.2.2.2.2.2.2.1, x.2.2.2.2.2.2.2.2.2.2.2.2.2.1, x.2.2.2.2.2.2.2.2.2.2.2.2.2.2))) hx hb hK hP hD hS 3 0 rfl rfl (inL (by decide)) (by decide) dX5_lookPage_121 rfl (fun H locs hP hD hS => ?_)
      refine lv_aload_n hx hb dX5_lookPage_122 rfl (lv_at hl 2 rfl) ?_
      refine va_get (D := D) (ci := 5) (v := .ref (ad 6)) hx hb hG inX5 hown hK hP 0 rfl rfl 8 (by decide) (hG _ kw268) (fun _ h9 => h9) rfl dX5_lookPage_123 ?_
      refine lv_iload hx hb dX5_lookPage_126 (lv_at hl 0 rfl) ?_
      refine lv_aload_n hx hb dX5_lookPage_128 rfl (lv_at hl 2 rfl) ?_
      refine va_get (D := D) (ci := 5) (v := .ref (ad 6)) hx hb hG inX5 hown hK hP 0 rfl rfl 8 (by decide) (hG _ kw268) (fun _ h9 => h9) rfl dX5_lookPage_129 ?_
      refine lv_iload hx hb dX5_lookPage_132 (lv_at hl 0 rfl) ?_
      refine lv_iconst (v := 1) hx hb dX5_lookPage_134 (by decide) ?_
      refine lv_isub hx hb dX5_lookPage_135 ?_
      refine tI (y := 0) (by decide) ?_
      refine gl (D := D) (j := 0) (f := x.2.2.2.1.2.2) hx hb hK hP 6 1 rfl rfl (inL (by decide)) (by decide) dX5_lookPage_136 ?_
      refine sl (D := D) (j := 1) (f := x.2.2.2.1.2.2) (x := (x.2.2.2.1.2.2 0)) (W' := (wM cI cJ ad (x.1, x.2.1, x.2.2.1, (x.2.2.2.1.1, (upd x.2.2.2.1.2.1 1 (x.2.2.2.1.2.1 0)), (vp_updL x.2.2.2.1.2.2 1 (x.2.2.2.1.2.2 0))), x.2.2.2.2.1, x.2.2.2.2.2.1, x.2.2.2.2.2.2.1, x.2.2.2.2.2.2.2.1, x.2.2.2.2.2.2.2.2.1, x.2.2.2.2.2.2.2.2.2.1, x.2.2.2.2.2.2.2.2.2.2.1, x.2.2.2.2.2.2.2.2.2.2.2.1, x.2.2.2.2.2.2.2.2.2.2.2.2.1, x.2.2.2.2.2.2.2.2.2.2.2.2.2.1, x.2.2.2.2.2.2.2.2.2.2.2.2.2.2))) hx hb hK hP hD hS 6 1 rfl rfl (inL (by decide)) (by decide) dX5_lookPage_137 rfl (fun H locs hP hD hS => ?_)
      refine lv_iinc (k := 0) (v := (0 : Int32)) (lv' := [(4, .int ((0 : Int32))), (5, .long ((x.2.2.2.1.2.2 (r1).toNatClampNeg))), (0, .ref (ad 0)), (1, .int (a0)), (2, .int (a1)), (3, .int (a2))]) hx hb dX5_lookPage_138 hl rfl (by decide) (by decide) rfl (fun ls hl => ?_)
      refine lv_goto (tgt := 101) hx hb dX5_lookPage_141 (by decide) ?_
      refine lv_iload hx hb dX5_lookPage_101 (lv_at hl 0 rfl) ?_
      refine lv_if_le (tgt := 144) hx hb dX5_lookPage_103 (by decide) (fun _ => ?_) (fun h9 => absurd (by decide) h9)
      refine lv_aload_n hx hb dX5_lookPage_144 rfl (lv_at hl 2 rfl) ?_
      refine va_get (D := D) (ci := 5) (v := .ref (ad 3)) hx hb hG inX5 hown hK hP 0 rfl rfl 5 (by decide) (hG _ kw254) (fun _ h9 => h9) rfl dX5_lookPage_145 ?_
      refine lv_iconst (v := 0) hx hb dX5_lookPage_148 (by decide) ?_
      refine lv_bipush (v := 64) hx hb dX5_lookPage_149 (by decide) ?_
      refine lv_iload_n hx hb dX5_lookPage_151 rfl (lv_at hl 3 rfl) ?_
      refine lv_imul hx hb dX5_lookPage_152 ?_
      refine lv_iload_n hx hb dX5_lookPage_153 rfl (lv_at hl 4 rfl) ?_
      refine lv_iadd hx hb dX5_lookPage_154 ?_
      refine si (D := D) (j := 0) (f := (upd x.2.2.2.1.2.1 1 (x.2.2.2.1.2.1 0))) (x := (((64 : Int32) * a0) + a1)) (W' := (wM cI cJ ad (x.1, x.2.1, x.2.2.1, (x.2.2.2.1.1, (upd (upd x.2.2.2.1.2.1 1 (x.2.2.2.1.2.1 0)) 0 (((64 : Int32) * a0) + a1)), (vp_updL x.2.2.2.1.2.2 1 (x.2.2.2.1.2.2 0))), x.2.2.2.2.1, x.2.2.2.2.2.1, x.2.2.2.2.2.2.1, x.2.2.2.2.2.2.2.1, x.2.2.2.2.2.2.2.2.1, x.2.2.2.2.2.2.2.2.2.1, x.2.2.2.2.2.2.2.2.2.2.1, x.2.2.2.2.2.2.2.2.2.2.2.1, x.2.2.2.2.2.2.2.2.2.2.2.2.1, x.2.2.2.2.2.2.2.2.2.2.2.2.2.1, x.2.2.2.2.2.2.2.2.2.2.2.2.2.2))) hx hb hK hP hD hS 3 0 rfl rfl (inL (by decide)) (by decide) dX5_lookPage_155 rfl (fun H locs hP hD hS => ?_)
      refine lv_aload_n hx hb dX5_lookPage_156 rfl (lv_at hl 2 rfl) ?_
      refine va_get (D := D) (ci := 5) (v := .ref (ad 6)) hx hb hG inX5 hown hK hP 0 rfl rfl 8 (by decide) (hG _ kw268) (fun _ h9 => h9) rfl dX5_lookPage_157 ?_
      refine lv_iconst (v := 0) hx hb dX5_lookPage_160 (by decide) ?_
      refine lv_lload hx hb dX5_lookPage_161 (lv_at hl 1 rfl) ?_
      refine sl (D := D) (j := 0) (f := (vp_updL x.2.2.2.1.2.2 1 (x.2.2.2.1.2.2 0))) (x := (x.2.2.2.1.2.2 (r1).toNatClampNeg)) (W' := (wM cI cJ ad (x.1, x.2.1, x.2.2.1, (x.2.2.2.1.1, (upd (upd x.2.2.2.1.2.1 1 (x.2.2.2.1.2.1 0)) 0 (((64 : Int32) * a0) + a1)), (vp_updL (vp_updL x.2.2.2.1.2.2 1 (x.2.2.2.1.2.2 0)) 0 (x.2.2.2.1.2.2 (r1).toNatClampNeg))), x.2.2.2.2.1, x.2.2.2.2.2.1, x.2.2.2.2.2.2.1, x.2.2.2.2.2.2.2.1, x.2.2.2.2.2.2.2.2.1, x.2.2.2.2.2.2.2.2.2.1, x.2.2.2.2.2.2.2.2.2.2.1, x.2.2.2.2.2.2.2.2.2.2.2.1, x.2.2.2.2.2.2.2.2.2.2.2.2.1, x.2.2.2.2.2.2.2.2.2.2.2.2.2.1, x.2.2.2.2.2.2.2.2.2.2.2.2.2.2))) hx hb hK hP hD hS 6 1 rfl rfl (inL (by decide)) (by decide) dX5_lookPage_163 rfl (fun H locs hP hD hS => ?_)
      refine lv_lload hx hb dX5_lookPage_164 (lv_at hl 1 rfl) ?_
      exact retl (u := (x.1, x.2.1, x.2.2.1, (x.2.2.2.1.1, (upd (upd x.2.2.2.1.2.1 1 (x.2.2.2.1.2.1 0)) 0 (((64 : Int32) * a0) + a1)), (vp_updL (vp_updL x.2.2.2.1.2.2 1 (x.2.2.2.1.2.2 0)) 0 (x.2.2.2.1.2.2 (r1).toNatClampNeg))), x.2.2.2.2.1, x.2.2.2.2.2.1, x.2.2.2.2.2.2.1, x.2.2.2.2.2.2.2.1, x.2.2.2.2.2.2.2.2.1, x.2.2.2.2.2.2.2.2.2.1, x.2.2.2.2.2.2.2.2.2.2.1, x.2.2.2.2.2.2.2.2.2.2.2.1, x.2.2.2.2.2.2.2.2.2.2.2.2.1, x.2.2.2.2.2.2.2.2.2.2.2.2.2.1, x.2.2.2.2.2.2.2.2.2.2.2.2.2.2)) hx hb hr hlocks hK hP hD hS dX5_lookPage_166 (by unfold fnX5_lookPage; rw [← q1]; (try dsimp only); rw [if_pos h2]; rw [if_neg h3]; rw [if_pos h4]; (try exact rfl))
    by_cases h5 : r1 = (2 : Int32)
    · have hl : lv_has ls 7 [(4, .int ((2 : Int32))), (5, .long ((x.2.2.2.1.2.2 (r1).toNatClampNeg))), (0, .ref (ad 0)), (1, .int (a0)), (2, .int (a1)), (3, .int (a2))] := lvc h5 (lv_sub hl [1, 0, 2, 3, 4, 5] rfl)
      refine lv_iload hx hb dX5_lookPage_101 (lv_at hl 0 rfl) ?_
      refine lv_if_le (tgt := 144) hx hb dX5_lookPage_103 (by decide) (fun h9 => absurd h9 (by decide)) (fun _ => ?_)
      refine lv_aload_n hx hb dX5_lookPage_106 rfl (lv_at hl 2 rfl) ?_
      refine va_get (D := D) (ci := 5) (v := .ref (ad 3)) hx hb hG inX5 hown hK hP 0 rfl rfl 5 (by decide) (hG _ kw254) (fun _ h9 => h9) rfl dX5_lookPage_107 ?_
      refine lv_iload hx hb dX5_lookPage_110 (lv_at hl 0 rfl) ?_
      refine lv_aload_n hx hb dX5_lookPage_112 rfl (lv_at hl 2 rfl) ?_
      refine va_get (D := D) (ci := 5) (v := .ref (ad 3)) hx hb hG inX5 hown hK hP 0 rfl rfl 5 (by decide) (hG _ kw254) (fun _ h9 => h9) rfl dX5_lookPage_113 ?_
      refine lv_iload hx hb dX5_lookPage_116 (lv_at hl 0 rfl) ?_
      refine lv_iconst (v := 1) hx hb dX5_lookPage_118 (by decide) ?_
      refine lv_isub hx hb dX5_lookPage_119 ?_
      refine tI (y := 1) (by decide) ?_
      refine gi (D := D) (j := 1) (f := x.2.2.2.1.2.1) hx hb hK hP 3 0 rfl rfl (inL (by decide)) (by decide) dX5_lookPage_120 ?_
      refine si (D := D) (j := 2) (f := x.2.2.2.1.2.1) (x := (x.2.2.2.1.2.1 1)) (W' := (wM cI cJ ad (x.1, x.2.1, x.2.2.1, (x.2.2.2.1.1, (upd x.2.2.2.1.2.1 2 (x.2.2.2.1.2.1 1)), x.2.2.2.1.2.2), x.2.2.2.2.1, x.2.2.2.2.2.1, x.2.2.2.2.2.2.1, x.2.2.2.2.2.2.2.1, x.2.2.2.2.2.2.2.2.1, x.2.2.2.2.2.2.2.2.2.1, x.2.2.2.2.2.2.2.2.2.2.1, x.2.2.2.2.2.2.2.2.2.2.2.1, x.2.2.2.2.2.2.2.2.2.2.2.2.1, x.2.2.2.2.2.2.2.2.2.2.2.2.2.1, x.2.2.2.2.2.2.2.2.2.2.2.2.2.2))) hx hb hK hP hD hS 3 0 rfl rfl (inL (by decide)) (by decide) dX5_lookPage_121 rfl (fun H locs hP hD hS => ?_)
      refine lv_aload_n hx hb dX5_lookPage_122 rfl (lv_at hl 2 rfl) ?_
      refine va_get (D := D) (ci := 5) (v := .ref (ad 6)) hx hb hG inX5 hown hK hP 0 rfl rfl 8 (by decide) (hG _ kw268) (fun _ h9 => h9) rfl dX5_lookPage_123 ?_
      refine lv_iload hx hb dX5_lookPage_126 (lv_at hl 0 rfl) ?_
      refine lv_aload_n hx hb dX5_lookPage_128 rfl (lv_at hl 2 rfl) ?_
      refine va_get (D := D) (ci := 5) (v := .ref (ad 6)) hx hb hG inX5 hown hK hP 0 rfl rfl 8 (by decide) (hG _ kw268) (fun _ h9 => h9) rfl dX5_lookPage_129 ?_
      refine lv_iload hx hb dX5_lookPage_132 (lv_at hl 0 rfl) ?_
      refine lv_iconst (v := 1) hx hb dX5_lookPage_134 (by decide) ?_
      refine lv_isub hx hb dX5_lookPage_135 ?_
      refine tI (y := 1) (by decide) ?_
      refine gl (D := D) (j := 1) (f := x.2.2.2.1.2.2) hx hb hK hP 6 1 rfl rfl (inL (by decide)) (by decide) dX5_lookPage_136 ?_
      refine sl (D := D) (j := 2) (f := x.2.2.2.1.2.2) (x := (x.2.2.2.1.2.2 1)) (W' := (wM cI cJ ad (x.1, x.2.1, x.2.2.1, (x.2.2.2.1.1, (upd x.2.2.2.1.2.1 2 (x.2.2.2.1.2.1 1)), (vp_updL x.2.2.2.1.2.2 2 (x.2.2.2.1.2.2 1))), x.2.2.2.2.1, x.2.2.2.2.2.1, x.2.2.2.2.2.2.1, x.2.2.2.2.2.2.2.1, x.2.2.2.2.2.2.2.2.1, x.2.2.2.2.2.2.2.2.2.1, x.2.2.2.2.2.2.2.2.2.2.1, x.2.2.2.2.2.2.2.2.2.2.2.1, x.2.2.2.2.2.2.2.2.2.2.2.2.1, x.2.2.2.2.2.2.2.2.2.2.2.2.2.1, x.2.2.2.2.2.2.2.2.2.2.2.2.2.2))) hx hb hK hP hD hS 6 1 rfl rfl (inL (by decide)) (by decide) dX5_lookPage_137 rfl (fun H locs hP hD hS => ?_)
      refine lv_iinc (k := 0) (v := (1 : Int32)) (lv' := [(4, .int ((1 : Int32))), (5, .long ((x.2.2.2.1.2.2 (r1).toNatClampNeg))), (0, .ref (ad 0)), (1, .int (a0)), (2, .int (a1)), (3, .int (a2))]) hx hb dX5_lookPage_138 hl rfl (by decide) (by decide) rfl (fun ls hl => ?_)
      refine lv_goto (tgt := 101) hx hb dX5_lookPage_141 (by decide) ?_
      refine lv_iload hx hb dX5_lookPage_101 (lv_at hl 0 rfl) ?_
      refine lv_if_le (tgt := 144) hx hb dX5_lookPage_103 (by decide) (fun h9 => absurd h9 (by decide)) (fun _ => ?_)
      refine lv_aload_n hx hb dX5_lookPage_106 rfl (lv_at hl 2 rfl) ?_
      refine va_get (D := D) (ci := 5) (v := .ref (ad 3)) hx hb hG inX5 hown hK hP 0 rfl rfl 5 (by decide) (hG _ kw254) (fun _ h9 => h9) rfl dX5_lookPage_107 ?_
      refine lv_iload hx hb dX5_lookPage_110 (lv_at hl 0 rfl) ?_
      refine lv_aload_n hx hb dX5_lookPage_112 rfl (lv_at hl 2 rfl) ?_
      refine va_get (D := D) (ci := 5) (v := .ref (ad 3)) hx hb hG inX5 hown hK hP 0 rfl rfl 5 (by decide) (hG _ kw254) (fun _ h9 => h9) rfl dX5_lookPage_113 ?_
      refine lv_iload hx hb dX5_lookPage_116 (lv_at hl 0 rfl) ?_
      refine lv_iconst (v := 1) hx hb dX5_lookPage_118 (by decide) ?_
      refine lv_isub hx hb dX5_lookPage_119 ?_
      refine tI (y := 0) (by decide) ?_
      refine gi (D := D) (j := 0) (f := (upd x.2.2.2.1.2.1 2 (x.2.2.2.1.2.1 1))) hx hb hK hP 3 0 rfl rfl (inL (by decide)) (by decide) dX5_lookPage_120 ?_
      refine si (D := D) (j := 1) (f := (upd x.2.2.2.1.2.1 2 (x.2.2.2.1.2.1 1))) (x := ((upd x.2.2.2.1.2.1 2 (x.2.2.2.1.2.1 1)) 0)) (W' := (wM cI cJ ad (x.1, x.2.1, x.2.2.1, (x.2.2.2.1.1, (upd (upd x.2.2.2.1.2.1 2 (x.2.2.2.1.2.1 1)) 1 ((upd x.2.2.2.1.2.1 2 (x.2.2.2.1.2.1 1)) 0)), (vp_updL x.2.2.2.1.2.2 2 (x.2.2.2.1.2.2 1))), x.2.2.2.2.1, x.2.2.2.2.2.1, x.2.2.2.2.2.2.1, x.2.2.2.2.2.2.2.1, x.2.2.2.2.2.2.2.2.1, x.2.2.2.2.2.2.2.2.2.1, x.2.2.2.2.2.2.2.2.2.2.1, x.2.2.2.2.2.2.2.2.2.2.2.1, x.2.2.2.2.2.2.2.2.2.2.2.2.1, x.2.2.2.2.2.2.2.2.2.2.2.2.2.1, x.2.2.2.2.2.2.2.2.2.2.2.2.2.2))) hx hb hK hP hD hS 3 0 rfl rfl (inL (by decide)) (by decide) dX5_lookPage_121 rfl (fun H locs hP hD hS => ?_)
      refine lv_aload_n hx hb dX5_lookPage_122 rfl (lv_at hl 2 rfl) ?_
      refine va_get (D := D) (ci := 5) (v := .ref (ad 6)) hx hb hG inX5 hown hK hP 0 rfl rfl 8 (by decide) (hG _ kw268) (fun _ h9 => h9) rfl dX5_lookPage_123 ?_
      refine lv_iload hx hb dX5_lookPage_126 (lv_at hl 0 rfl) ?_
      refine lv_aload_n hx hb dX5_lookPage_128 rfl (lv_at hl 2 rfl) ?_
      refine va_get (D := D) (ci := 5) (v := .ref (ad 6)) hx hb hG inX5 hown hK hP 0 rfl rfl 8 (by decide) (hG _ kw268) (fun _ h9 => h9) rfl dX5_lookPage_129 ?_
      refine lv_iload hx hb dX5_lookPage_132 (lv_at hl 0 rfl) ?_
      refine lv_iconst (v := 1) hx hb dX5_lookPage_134 (by decide) ?_
      refine lv_isub hx hb dX5_lookPage_135 ?_
      refine tI (y := 0) (by decide) ?_
      refine gl (D := D) (j := 0) (f := (vp_updL x.2.2.2.1.2.2 2 (x.2.2.2.1.2.2 1))) hx hb hK hP 6 1 rfl rfl (inL (by decide)) (by decide) dX5_lookPage_136 ?_
      refine sl (D := D) (j := 1) (f := (vp_updL x.2.2.2.1.2.2 2 (x.2.2.2.1.2.2 1))) (x := ((vp_updL x.2.2.2.1.2.2 2 (x.2.2.2.1.2.2 1)) 0)) (W' := (wM cI cJ ad (x.1, x.2.1, x.2.2.1, (x.2.2.2.1.1, (upd (upd x.2.2.2.1.2.1 2 (x.2.2.2.1.2.1 1)) 1 ((upd x.2.2.2.1.2.1 2 (x.2.2.2.1.2.1 1)) 0)), (vp_updL (vp_updL x.2.2.2.1.2.2 2 (x.2.2.2.1.2.2 1)) 1 ((vp_updL x.2.2.2.1.2.2 2 (x.2.2.2.1.2.2 1)) 0))), x.2.2.2.2.1, x.2.2.2.2.2.1, x.2.2.2.2.2.2.1, x.2.2.2.2.2.2.2.1, x.2.2.2.2.2.2.2.2.1, x.2.2.2.2.2.2.2.2.2.1, x.2.2.2.2.2.2.2.2.2.2.1, x.2.2.2.2.2.2.2.2.2.2.2.1, x.2.2.2.2.2.2.2.2.2.2.2.2.1, x.2.2.2.2.2.2.2.2.2.2.2.2.2.1, x.2.2.2.2.2.2.2.2.2.2.2.2.2.2))) hx hb hK hP hD hS 6 1 rfl rfl (inL (by decide)) (by decide) dX5_lookPage_137 rfl (fun H locs hP hD hS => ?_)
      refine lv_iinc (k := 0) (v := (0 : Int32)) (lv' := [(4, .int ((0 : Int32))), (5, .long ((x.2.2.2.1.2.2 (r1).toNatClampNeg))), (0, .ref (ad 0)), (1, .int (a0)), (2, .int (a1)), (3, .int (a2))]) hx hb dX5_lookPage_138 hl rfl (by decide) (by decide) rfl (fun ls hl => ?_)
      refine lv_goto (tgt := 101) hx hb dX5_lookPage_141 (by decide) ?_
      refine lv_iload hx hb dX5_lookPage_101 (lv_at hl 0 rfl) ?_
      refine lv_if_le (tgt := 144) hx hb dX5_lookPage_103 (by decide) (fun _ => ?_) (fun h9 => absurd (by decide) h9)
      refine lv_aload_n hx hb dX5_lookPage_144 rfl (lv_at hl 2 rfl) ?_
      refine va_get (D := D) (ci := 5) (v := .ref (ad 3)) hx hb hG inX5 hown hK hP 0 rfl rfl 5 (by decide) (hG _ kw254) (fun _ h9 => h9) rfl dX5_lookPage_145 ?_
      refine lv_iconst (v := 0) hx hb dX5_lookPage_148 (by decide) ?_
      refine lv_bipush (v := 64) hx hb dX5_lookPage_149 (by decide) ?_
      refine lv_iload_n hx hb dX5_lookPage_151 rfl (lv_at hl 3 rfl) ?_
      refine lv_imul hx hb dX5_lookPage_152 ?_
      refine lv_iload_n hx hb dX5_lookPage_153 rfl (lv_at hl 4 rfl) ?_
      refine lv_iadd hx hb dX5_lookPage_154 ?_
      refine si (D := D) (j := 0) (f := (upd (upd x.2.2.2.1.2.1 2 (x.2.2.2.1.2.1 1)) 1 ((upd x.2.2.2.1.2.1 2 (x.2.2.2.1.2.1 1)) 0))) (x := (((64 : Int32) * a0) + a1)) (W' := (wM cI cJ ad (x.1, x.2.1, x.2.2.1, (x.2.2.2.1.1, (upd (upd (upd x.2.2.2.1.2.1 2 (x.2.2.2.1.2.1 1)) 1 ((upd x.2.2.2.1.2.1 2 (x.2.2.2.1.2.1 1)) 0)) 0 (((64 : Int32) * a0) + a1)), (vp_updL (vp_updL x.2.2.2.1.2.2 2 (x.2.2.2.1.2.2 1)) 1 ((vp_updL x.2.2.2.1.2.2 2 (x.2.2.2.1.2.2 1)) 0))), x.2.2.2.2.1, x.2.2.2.2.2.1, x.2.2.2.2.2.2.1, x.2.2.2.2.2.2.2.1, x.2.2.2.2.2.2.2.2.1, x.2.2.2.2.2.2.2.2.2.1, x.2.2.2.2.2.2.2.2.2.2.1, x.2.2.2.2.2.2.2.2.2.2.2.1, x.2.2.2.2.2.2.2.2.2.2.2.2.1, x.2.2.2.2.2.2.2.2.2.2.2.2.2.1, x.2.2.2.2.2.2.2.2.2.2.2.2.2.2))) hx hb hK hP hD hS 3 0 rfl rfl (inL (by decide)) (by decide) dX5_lookPage_155 rfl (fun H locs hP hD hS => ?_)
      refine lv_aload_n hx hb dX5_lookPage_156 rfl (lv_at hl 2 rfl) ?_
      refine va_get (D := D) (ci := 5) (v := .ref (ad 6)) hx hb hG inX5 hown hK hP 0 rfl rfl 8 (by decide) (hG _ kw268) (fun _ h9 => h9) rfl dX5_lookPage_157 ?_
      refine lv_iconst (v := 0) hx hb dX5_lookPage_160 (by decide) ?_
      refine lv_lload hx hb dX5_lookPage_161 (lv_at hl 1 rfl) ?_
      refine sl (D := D) (j := 0) (f := (vp_updL (vp_updL x.2.2.2.1.2.2 2 (x.2.2.2.1.2.2 1)) 1 ((vp_updL x.2.2.2.1.2.2 2 (x.2.2.2.1.2.2 1)) 0))) (x := (x.2.2.2.1.2.2 (r1).toNatClampNeg)) (W' := (wM cI cJ ad (x.1, x.2.1, x.2.2.1, (x.2.2.2.1.1, (upd (upd (upd x.2.2.2.1.2.1 2 (x.2.2.2.1.2.1 1)) 1 ((upd x.2.2.2.1.2.1 2 (x.2.2.2.1.2.1 1)) 0)) 0 (((64 : Int32) * a0) + a1)), (vp_updL (vp_updL (vp_updL x.2.2.2.1.2.2 2 (x.2.2.2.1.2.2 1)) 1 ((vp_updL x.2.2.2.1.2.2 2 (x.2.2.2.1.2.2 1)) 0)) 0 (x.2.2.2.1.2.2 (r1).toNatClampNeg))), x.2.2.2.2.1, x.2.2.2.2.2.1, x.2.2.2.2.2.2.1, x.2.2.2.2.2.2.2.1, x.2.2.2.2.2.2.2.2.1, x.2.2.2.2.2.2.2.2.2.1, x.2.2.2.2.2.2.2.2.2.2.1, x.2.2.2.2.2.2.2.2.2.2.2.1, x.2.2.2.2.2.2.2.2.2.2.2.2.1, x.2.2.2.2.2.2.2.2.2.2.2.2.2.1, x.2.2.2.2.2.2.2.2.2.2.2.2.2.2))) hx hb hK hP hD hS 6 1 rfl rfl (inL (by decide)) (by decide) dX5_lookPage_163 rfl (fun H locs hP hD hS => ?_)
      refine lv_lload hx hb dX5_lookPage_164 (lv_at hl 1 rfl) ?_
      exact retl (u := (x.1, x.2.1, x.2.2.1, (x.2.2.2.1.1, (upd (upd (upd x.2.2.2.1.2.1 2 (x.2.2.2.1.2.1 1)) 1 ((upd x.2.2.2.1.2.1 2 (x.2.2.2.1.2.1 1)) 0)) 0 (((64 : Int32) * a0) + a1)), (vp_updL (vp_updL (vp_updL x.2.2.2.1.2.2 2 (x.2.2.2.1.2.2 1)) 1 ((vp_updL x.2.2.2.1.2.2 2 (x.2.2.2.1.2.2 1)) 0)) 0 (x.2.2.2.1.2.2 (r1).toNatClampNeg))), x.2.2.2.2.1, x.2.2.2.2.2.1, x.2.2.2.2.2.2.1, x.2.2.2.2.2.2.2.1, x.2.2.2.2.2.2.2.2.1, x.2.2.2.2.2.2.2.2.2.1, x.2.2.2.2.2.2.2.2.2.2.1, x.2.2.2.2.2.2.2.2.2.2.2.1, x.2.2.2.2.2.2.2.2.2.2.2.2.1, x.2.2.2.2.2.2.2.2.2.2.2.2.2.1, x.2.2.2.2.2.2.2.2.2.2.2.2.2.2)) hx hb hr hlocks hK hP hD hS dX5_lookPage_166 (by unfold fnX5_lookPage; rw [← q1]; (try dsimp only); rw [if_pos h2]; rw [if_neg h3]; rw [if_neg h4]; rw [if_pos h5]; (try exact rfl))
    have h6 : r1 = (3 : Int32) := c4l (plN j1 (Int32.not_lt.mpr h2)) h3 h4 h5
    have hl : lv_has ls 7 [(4, .int ((3 : Int32))), (5, .long ((x.2.2.2.1.2.2 (r1).toNatClampNeg))), (0, .ref (ad 0)), (1, .int (a0)), (2, .int (a1)), (3, .int (a2))] := lvc h6 (lv_sub hl [1, 0, 2, 3, 4, 5] rfl)
    refine lv_iload hx hb dX5_lookPage_101 (lv_at hl 0 rfl) ?_
    refine lv_if_le (tgt := 144) hx hb dX5_lookPage_103 (by decide) (fun h9 => absurd h9 (by decide)) (fun _ => ?_)
    refine lv_aload_n hx hb dX5_lookPage_106 rfl (lv_at hl 2 rfl) ?_
    refine va_get (D := D) (ci := 5) (v := .ref (ad 3)) hx hb hG inX5 hown hK hP 0 rfl rfl 5 (by decide) (hG _ kw254) (fun _ h9 => h9) rfl dX5_lookPage_107 ?_
    refine lv_iload hx hb dX5_lookPage_110 (lv_at hl 0 rfl) ?_
    refine lv_aload_n hx hb dX5_lookPage_112 rfl (lv_at hl 2 rfl) ?_
    refine va_get (D := D) (ci := 5) (v := .ref (ad 3)) hx hb hG inX5 hown hK hP 0 rfl rfl 5 (by decide) (hG _ kw254) (fun _ h9 => h9) rfl dX5_lookPage_113 ?_
    refine lv_iload hx hb dX5_lookPage_116 (lv_at hl 0 rfl) ?_
    refine lv_iconst (v := 1) hx hb dX5_lookPage_118 (by decide) ?_
    refine lv_isub hx hb dX5_lookPage_119 ?_
    refine tI (y := 2) (by decide) ?_
    refine gi (D := D) (j := 2) (f := x.2.2.2.1.2.1) hx hb hK hP 3 0 rfl rfl (inL (by decide)) (by decide) dX5_lookPage_120 ?_
    refine si (D := D) (j := 3) (f := x.2.2.2.1.2.1) (x := (x.2.2.2.1.2.1 2)) (W' := (wM cI cJ ad (x.1, x.2.1, x.2.2.1, (x.2.2.2.1.1, (upd x.2.2.2.1.2.1 3 (x.2.2.2.1.2.1 2)), x.2.2.2.1.2.2), x.2.2.2.2.1, x.2.2.2.2.2.1, x.2.2.2.2.2.2.1, x.2.2.2.2.2.2.2.1, x.2.2.2.2.2.2.2.2.1, x.2.2.2.2.2.2.2.2.2.1, x.2.2.2.2.2.2.2.2.2.2.1, x.2.2.2.2.2.2.2.2.2.2.2.1, x.2.2.2.2.2.2.2.2.2.2.2.2.1, x.2.2.2.2.2.2.2.2.2.2.2.2.2.1, x.2.2.2.2.2.2.2.2.2.2.2.2.2.2))) hx hb hK hP hD hS 3 0 rfl rfl (inL (by decide)) (by decide) dX5_lookPage_121 rfl (fun H locs hP hD hS => ?_)
    refine lv_aload_n hx hb dX5_lookPage_122 rfl (lv_at hl 2 rfl) ?_
    refine va_get (D := D) (ci := 5) (v := .ref (ad 6)) hx hb hG inX5 hown hK hP 0 rfl rfl 8 (by decide) (hG _ kw268) (fun _ h9 => h9) rfl dX5_lookPage_123 ?_
    refine lv_iload hx hb dX5_lookPage_126 (lv_at hl 0 rfl) ?_
    refine lv_aload_n hx hb dX5_lookPage_128 rfl (lv_at hl 2 rfl) ?_
    refine va_get (D := D) (ci := 5) (v := .ref (ad 6)) hx hb hG inX5 hown hK hP 0 rfl rfl 8 (by decide) (hG _ kw268) (fun _ h9 => h9) rfl dX5_lookPage_129 ?_
    refine lv_iload hx hb dX5_lookPage_132 (lv_at hl 0 rfl) ?_
    refine lv_iconst (v := 1) hx hb dX5_lookPage_134 (by decide) ?_
    refine lv_isub hx hb dX5_lookPage_135 ?_
    refine tI (y := 2) (by decide) ?_
    refine gl (D := D) (j := 2) (f := x.2.2.2.1.2.2) hx hb hK hP 6 1 rfl rfl (inL (by decide)) (by decide) dX5_lookPage_136 ?_
    refine sl (D := D) (j := 3) (f := x.2.2.2.1.2.2) (x := (x.2.2.2.1.2.2 2)) (W' := (wM cI cJ ad (x.1, x.2.1, x.2.2.1, (x.2.2.2.1.1, (upd x.2.2.2.1.2.1 3 (x.2.2.2.1.2.1 2)), (vp_updL x.2.2.2.1.2.2 3 (x.2.2.2.1.2.2 2))), x.2.2.2.2.1, x.2.2.2.2.2.1, x.2.2.2.2.2.2.1, x.2.2.2.2.2.2.2.1, x.2.2.2.2.2.2.2.2.1, x.2.2.2.2.2.2.2.2.2.1, x.2.2.2.2.2.2.2.2.2.2.1, x.2.2.2.2.2.2.2.2.2.2.2.1, x.2.2.2.2.2.2.2.2.2.2.2.2.1, x.2.2.2.2.2.2.2.2.2.2.2.2.2.1, x.2.2.2.2.2.2.2.2.2.2.2.2.2.2))) hx hb hK hP hD hS 6 1 rfl rfl (inL (by decide)) (by decide) dX5_lookPage_137 rfl (fun H locs hP hD hS => ?_)
    refine lv_iinc (k := 0) (v := (2 : Int32)) (lv' := [(4, .int ((2 : Int32))), (5, .long ((x.2.2.2.1.2.2 (r1).toNatClampNeg))), (0, .ref (ad 0)), (1, .int (a0)), (2, .int (a1)), (3, .int (a2))]) hx hb dX5_lookPage_138 hl rfl (by decide) (by decide) rfl (fun ls hl => ?_)
    refine lv_goto (tgt := 101) hx hb dX5_lookPage_141 (by decide) ?_
    refine lv_iload hx hb dX5_lookPage_101 (lv_at hl 0 rfl) ?_
    refine lv_if_le (tgt := 144) hx hb dX5_lookPage_103 (by decide) (fun h9 => absurd h9 (by decide)) (fun _ => ?_)
    refine lv_aload_n hx hb dX5_lookPage_106 rfl (lv_at hl 2 rfl) ?_
    refine va_get (D := D) (ci := 5) (v := .ref (ad 3)) hx hb hG inX5 hown hK hP 0 rfl rfl 5 (by decide) (hG _ kw254) (fun _ h9 => h9) rfl dX5_lookPage_107 ?_
    refine lv_iload hx hb dX5_lookPage_110 (lv_at hl 0 rfl) ?_
    refine lv_aload_n hx hb dX5_lookPage_112 rfl (lv_at hl 2 rfl) ?_
    refine va_get (D := D) (ci := 5) (v := .ref (ad 3)) hx hb hG inX5 hown hK hP 0 rfl rfl 5 (by decide) (hG _ kw254) (fun _ h9 => h9) rfl dX5_lookPage_113 ?_
    refine lv_iload hx hb dX5_lookPage_116 (lv_at hl 0 rfl) ?_
    refine lv_iconst (v := 1) hx hb dX5_lookPage_118 (by decide) ?_
    refine lv_isub hx hb dX5_lookPage_119 ?_
    refine tI (y := 1) (by decide) ?_
    refine gi (D := D) (j := 1) (f := (upd x.2.2.2.1.2.1 3 (x.2.2.2.1.2.1 2))) hx hb hK hP 3 0 rfl rfl (inL (by decide)) (by decide) dX5_lookPage_120 ?_
    refine si (D := D) (j := 2) (f := (upd x.2.2.2.1.2.1 3 (x.2.2.2.1.2.1 2))) (x := ((upd x.2.2.2.1.2.1 3 (x.2.2.2.1.2.1 2)) 1)) (W' := (wM cI cJ ad (x.1, x.2.1, x.2.2.1, (x.2.2.2.1.1, (upd (upd x.2.2.2.1.2.1 3 (x.2.2.2.1.2.1 2)) 2 ((upd x.2.2.2.1.2.1 3 (x.2.2.2.1.2.1 2)) 1)), (vp_updL x.2.2.2.1.2.2 3 (x.2.2.2.1.2.2 2))), x.2.2.2.2.1, x.2.2.2.2.2.1, x.2.2.2.2.2.2.1, x.2.2.2.2.2.2.2.1, x.2.2.2.2.2.2.2.2.1, x.2.2.2.2.2.2.2.2.2.1, x.2.2.2.2.2.2.2.2.2.2.1, x.2.2.2.2.2.2.2.2.2.2.2.1, x.2.2.2.2.2.2.2.2.2.2.2.2.1, x.2.2.2.2.2.2.2.2.2.2.2.2.2.1, x.2.2.2.2.2.2.2.2.2.2.2.2.2.2))) hx hb hK hP hD hS 3 0 rfl rfl (inL (by decide)) (by decide) dX5_lookPage_121 rfl (fun H locs hP hD hS => ?_)
    refine lv_aload_n hx hb dX5_lookPage_122 rfl (lv_at hl 2 rfl) ?_
    refine va_get (D := D) (ci := 5) (v := .ref (ad 6)) hx hb hG inX5 hown hK hP 0 rfl rfl 8 (by decide) (hG _ kw268) (fun _ h9 => h9) rfl dX5_lookPage_123 ?_
    refine lv_iload hx hb dX5_lookPage_126 (lv_at hl 0 rfl) ?_
    refine lv_aload_n hx hb dX5_lookPage_128 rfl (lv_at hl 2 rfl) ?_
    refine va_get (D := D) (ci := 5) (v := .ref (ad 6)) hx hb hG inX5 hown hK hP 0 rfl rfl 8 (by decide) (hG _ kw268) (fun _ h9 => h9) rfl dX5_lookPage_129 ?_
    refine lv_iload hx hb dX5_lookPage_132 (lv_at hl 0 rfl) ?_
    refine lv_iconst (v := 1) hx hb dX5_lookPage_134 (by decide) ?_
    refine lv_isub hx hb dX5_lookPage_135 ?_
    refine tI (y := 1) (by decide) ?_
    refine gl (D := D) (j := 1) (f := (vp_updL x.2.2.2.1.2.2 3 (x.2.2.2.1.2.2 2))) hx hb hK hP 6 1 rfl rfl (inL (by decide)) (by decide) dX5_lookPage_136 ?_
    refine sl (D := D) (j := 2) (f := (vp_updL x.2.2.2.1.2.2 3 (x.2.2.2.1.2.2 2))) (x := ((vp_updL x.2.2.2.1.2.2 3 (x.2.2.2.1.2.2 2)) 1)) (W' := (wM cI cJ ad (x.1, x.2.1, x.2.2.1, (x.2.2.2.1.1, (upd (upd x.2.2.2.1.2.1 3 (x.2.2.2.1.2.1 2)) 2 ((upd x.2.2.2.1.2.1 3 (x.2.2.2.1.2.1 2)) 1)), (vp_updL (vp_updL x.2.2.2.1.2.2 3 (x.2.2.2.1.2.2 2)) 2 ((vp_updL x.2.2.2.1.2.2 3 (x.2.2.2.1.2.2 2)) 1))), x.2.2.2.2.1, x.2.2.2.2.2.1, x.2.2.2.2.2.2.1, x.2.2.2.2.2.2.2.1, x.2.2.2.2.2.2.2.2.1, x.2.2.2.2.2.2.2.2.2.1, x.2.2.2.2.2.2.2.2.2.2.1, x.2.2.2.2.2.2.2.2.2.2.2.1, x.2.2.2.2.2.2.2.2.2.2.2.2.1, x.2.2.2.2.2.2.2.2.2.2.2.2.2.1, x.2.2.2.2.2.2.2.2.2.2.2.2.2.2))) hx hb hK hP hD hS 6 1 rfl rfl (inL (by decide)) (by decide) dX5_lookPage_137 rfl (fun H locs hP hD hS => ?_)
    refine lv_iinc (k := 0) (v := (1 : Int32)) (lv' := [(4, .int ((1 : Int32))), (5, .long ((x.2.2.2.1.2.2 (r1).toNatClampNeg))), (0, .ref (ad 0)), (1, .int (a0)), (2, .int (a1)), (3, .int (a2))]) hx hb dX5_lookPage_138 hl rfl (by decide) (by decide) rfl (fun ls hl => ?_)
    refine lv_goto (tgt := 101) hx hb dX5_lookPage_141 (by decide) ?_
    refine lv_iload hx hb dX5_lookPage_101 (lv_at hl 0 rfl) ?_
    refine lv_if_le (tgt := 144) hx hb dX5_lookPage_103 (by decide) (fun h9 => absurd h9 (by decide)) (fun _ => ?_)
    refine lv_aload_n hx hb dX5_lookPage_106 rfl (lv_at hl 2 rfl) ?_
    refine va_get (D := D) (ci := 5) (v := .ref (ad 3)) hx hb hG inX5 hown hK hP 0 rfl rfl 5 (by decide) (hG _ kw254) (fun _ h9 => h9) rfl dX5_lookPage_107 ?_
    refine lv_iload hx hb dX5_lookPage_110 (lv_at hl 0 rfl) ?_
    refine lv_aload_n hx hb dX5_lookPage_112 rfl (lv_at hl 2 rfl) ?_
    refine va_get (D := D) (ci := 5) (v := .ref (ad 3)) hx hb hG inX5 hown hK hP 0 rfl rfl 5 (by decide) (hG _ kw254) (fun _ h9 => h9) rfl dX5_lookPage_113 ?_
    refine lv_iload hx hb dX5_lookPage_116 (lv_at hl 0 rfl) ?_
    refine lv_iconst (v := 1) hx hb dX5_lookPage_118 (by decide) ?_
    refine lv_isub hx hb dX5_lookPage_119 ?_
    refine tI (y := 0) (by decide) ?_
    refine gi (D := D) (j := 0) (f := (upd (upd x.2.2.2.1.2.1 3 (x.2.2.2.1.2.1 2)) 2 ((upd x.2.2.2.1.2.1 3 (x.2.2.2.1.2.1 2)) 1))) hx hb hK hP 3 0 rfl rfl (inL (by decide)) (by decide) dX5_lookPage_120 ?_
    refine si (D := D) (j := 1) (f := (upd (upd x.2.2.2.1.2.1 3 (x.2.2.2.1.2.1 2)) 2 ((upd x.2.2.2.1.2.1 3 (x.2.2.2.1.2.1 2)) 1))) (x := ((upd (upd x.2.2.2.1.2.1 3 (x.2.2.2.1.2.1 2)) 2 ((upd x.2.2.2.1.2.1 3 (x.2.2.2.1.2.1 2)) 1)) 0)) (W' := (wM cI cJ ad (x.1, x.2.1, x.2.2.1, (x.2.2.2.1.1, (upd (upd (upd x.2.2.2.1.2.1 3 (x.2.2.2.1.2.1 2)) 2 ((upd x.2.2.2.1.2.1 3 (x.2.2.2.1.2.1 2)) 1)) 1 ((upd (upd x.2.2.2.1.2.1 3 (x.2.2.2.1.2.1 2)) 2 ((upd x.2.2.2.1.2.1 3 (x.2.2.2.1.2.1 2)) 1)) 0)), (vp_updL (vp_updL x.2.2.2.1.2.2 3 (x.2.2.2.1.2.2 2)) 2 ((vp_updL x.2.2.2.1.2.2 3 (x.2.2.2.1.2.2 2)) 1))), x.2.2.2.2.1, x.2.2.2.2.2.1, x.2.2.2.2.2.2.1, x.2.2.2.2.2.2.2.1, x.2.2.2.2.2.2.2.2.1, x.2.2.2.2.2.2.2.2.2.1, x.2.2.2.2.2.2.2.2.2.2.1, x.2.2.2.2.2.2.2.2.2.2.2.1, x.2.2.2.2.2.2.2.2.2.2.2.2.1, x.2.2.2.2.2.2.2.2.2.2.2.2.2.1, x.2.2.2.2.2.2.2.2.2.2.2.2.2.2))) hx hb hK hP hD hS 3 0 rfl rfl (inL (by decide)) (by decide) dX5_lookPage_121 rfl (fun H locs hP hD hS => ?_)
    refine lv_aload_n hx hb dX5_lookPage_122 rfl (lv_at hl 2 rfl) ?_
    refine va_get (D := D) (ci := 5) (v := .ref (ad 6)) hx hb hG inX5 hown hK hP 0 rfl rfl 8 (by decide) (hG _ kw268) (fun _ h9 => h9) rfl dX5_lookPage_123 ?_
    refine lv_iload hx hb dX5_lookPage_126 (lv_at hl 0 rfl) ?_
    refine lv_aload_n hx hb dX5_lookPage_128 rfl (lv_at hl 2 rfl) ?_
    refine va_get (D := D) (ci := 5) (v := .ref (ad 6)) hx hb hG inX5 hown hK hP 0 rfl rfl 8 (by decide) (hG _ kw268) (fun _ h9 => h9) rfl dX5_lookPage_129 ?_
    refine lv_iload hx hb dX5_lookPage_132 (lv_at hl 0 rfl) ?_
    refine lv_iconst (v := 1) hx hb dX5_lookPage_134 (by decide) ?_
    refine lv_isub hx hb dX5_lookPage_135 ?_
    refine tI (y := 0) (by decide) ?_
    refine gl (D := D) (j := 0) (f := (vp_updL (vp_updL x.2.2.2.1.2.2 3 (x.2.2.2.1.2.2 2)) 2 ((vp_updL x.2.2.2.1.2.2 3 (x.2.2.2.1.2.2 2)) 1))) hx hb hK hP 6 1 rfl rfl (inL (by decide)) (by decide) dX5_lookPage_136 ?_
    refine sl (D := D) (j := 1) (f := (vp_updL (vp_updL x.2.2.2.1.2.2 3 (x.2.2.2.1.2.2 2)) 2 ((vp_updL x.2.2.2.1.2.2 3 (x.2.2.2.1.2.2 2)) 1))) (x := ((vp_updL (vp_updL x.2.2.2.1.2.2 3 (x.2.2.2.1.2.2 2)) 2 ((vp_updL x.2.2.2.1.2.2 3 (x.2.2.2.1.2.2 2)) 1)) 0)) (W' := (wM cI cJ ad (x.1, x.2.1, x.2.2.1, (x.2.2.2.1.1, (upd (upd (upd x.2.2.2.1.2.1 3 (x.2.2.2.1.2.1 2)) 2 ((upd x.2.2.2.1.2.1 3 (x.2.2.2.1.2.1 2)) 1)) 1 ((upd (upd x.2.2.2.1.2.1 3 (x.2.2.2.1.2.1 2)) 2 ((upd x.2.2.2.1.2.1 3 (x.2.2.2.1.2.1 2)) 1)) 0)), (vp_updL (vp_updL (vp_updL x.2.2.2.1.2.2 3 (x.2.2.2.1.2.2 2)) 2 ((vp_updL x.2.2.2.1.2.2 3 (x.2.2.2.1.2.2 2)) 1)) 1 ((vp_updL (vp_updL x.2.2.2.1.2.2 3 (x.2.2.2.1.2.2 2)) 2 ((vp_updL x.2.2.2.1.2.2 3 (x.2.2.2.1.2.2 2)) 1)) 0))), x.2.2.2.2.1, x.2.2.2.2.2.1, x.2.2.2.2.2.2.1, x.2.2.2.2.2.2.2.1, x.2.2.2.2.2.2.2.2.1, x.2.2.2.2.2.2.2.2.2.1, x.2.2.2.2.2.2.2.2.2.2.1, x.2.2.2.2.2.2.2.2.2.2.2.1, x.2.2.2.2.2.2.2.2.2.2.2.2.1, x.2.2.2.2.2.2.2.2.2.2.2.2.2.1, x.2.2.2.2.2.2.2.2.2.2.2.2.2.2))) hx hb hK hP hD hS 6 1 rfl rfl (inL (by decide)) (by decide) dX5_lookPage_137 rfl (fun H locs hP hD hS => ?_)
    refine lv_iinc (k := 0) (v := (0 : Int32)) (lv' := [(4, .int ((0 : Int32))), (5, .long ((x.2.2.2.1.2.2 (r1).toNatClampNeg))), (0, .ref (ad 0)), (1, .int (a0)), (2, .int (a1)), (3, .int (a2))]) hx hb dX5_lookPage_138 hl rfl (by decide) (by decide) rfl (fun ls hl => ?_)
    refine lv_goto (tgt := 101) hx hb dX5_lookPage_141 (by decide) ?_
    refine lv_iload hx hb dX5_lookPage_101 (lv_at hl 0 rfl) ?_
    refine lv_if_le (tgt := 144) hx hb dX5_lookPage_103 (by decide) (fun _ => ?_) (fun h9 => absurd (by decide) h9)
    refine lv_aload_n hx hb dX5_lookPage_144 rfl (lv_at hl 2 rfl) ?_
    refine va_get (D := D) (ci := 5) (v := .ref (ad 3)) hx hb hG inX5 hown hK hP 0 rfl rfl 5 (by decide) (hG _ kw254) (fun _ h9 => h9) rfl dX5_lookPage_145 ?_
    refine lv_iconst (v := 0) hx hb dX5_lookPage_148 (by decide) ?_
    refine lv_bipush (v := 64) hx hb dX5_lookPage_149 (by decide) ?_
    refine lv_iload_n hx hb dX5_lookPage_151 rfl (lv_at hl 3 rfl) ?_
    refine lv_imul hx hb dX5_lookPage_152 ?_
    refine lv_iload_n hx hb dX5_lookPage_153 rfl (lv_at hl 4 rfl) ?_
    refine lv_iadd hx hb dX5_lookPage_154 ?_
    refine si (D := D) (j := 0) (f := (upd (upd (upd x.2.2.2.1.2.1 3 (x.2.2.2.1.2.1 2)) 2 ((upd x.2.2.2.1.2.1 3 (x.2.2.2.1.2.1 2)) 1)) 1 ((upd (upd x.2.2.2.1.2.1 3 (x.2.2.2.1.2.1 2)) 2 ((upd x.2.2.2.1.2.1 3 (x.2.2.2.1.2.1 2)) 1)) 0))) (x := (((64 : Int32) * a0) + a1)) (W' := (wM cI cJ ad (x.1, x.2.1, x.2.2.1, (x.2.2.2.1.1, (upd (upd (upd (upd x.2.2.2.1.2.1 3 (x.2.2.2.1.2.1 2)) 2 ((upd x.2.2.2.1.2.1 3 (x.2.2.2.1.2.1 2)) 1)) 1 ((upd (upd x.2.2.2.1.2.1 3 (x.2.2.2.1.2.1 2)) 2 ((upd x.2.2.2.1.2.1 3 (x.2.2.2.1.2.1 2)) 1)) 0)) 0 (((64 : Int32) * a0) + a1)), (vp_updL (vp_updL (vp_updL x.2.2.2.1.2.2 3 (x.2.2.2.1.2.2 2)) 2 ((vp_updL x.2.2.2.1.2.2 3 (x.2.2.2.1.2.2 2)) 1)) 1 ((vp_updL (vp_updL x.2.2.2.1.2.2 3 (x.2.2.2.1.2.2 2)) 2 ((vp_updL x.2.2.2.1.2.2 3 (x.2.2.2.1.2.2 2)) 1)) 0))), x.2.2.2.2.1, x.2.2.2.2.2.1, x.2.2.2.2.2.2.1, x.2.2.2.2.2.2.2.1, x.2.2.2.2.2.2.2.2.1, x.2.2.2.2.2.2.2.2.2.1, x.2.2.2.2.2.2.2.2.2.2.1, x.2.2.2.2.2.2.2.2.2.2.2.1, x.2.2.2.2.2.2.2.2.2.2.2.2.1, x.2.2.2.2.2.2.2.2.2.2.2.2.2.1, x.2.2.2.2.2.2.2.2.2.2.2.2.2.2))) hx hb hK hP hD hS 3 0 rfl rfl (inL (by decide)) (by decide) dX5_lookPage_155 rfl (fun H locs hP hD hS => ?_)
    refine lv_aload_n hx hb dX5_lookPage_156 rfl (lv_at hl 2 rfl) ?_
    refine va_get (D := D) (ci := 5) (v := .ref (ad 6)) hx hb hG inX5 hown hK hP 0 rfl rfl 8 (by decide) (hG _ kw268) (fun _ h9 => h9) rfl dX5_lookPage_157 ?_
    refine lv_iconst (v := 0) hx hb dX5_lookPage_160 (by decide) ?_
    refine lv_lload hx hb dX5_lookPage_161 (lv_at hl 1 rfl) ?_
    refine sl (D := D) (j := 0) (f := (vp_updL (vp_updL (vp_updL x.2.2.2.1.2.2 3 (x.2.2.2.1.2.2 2)) 2 ((vp_updL x.2.2.2.1.2.2 3 (x.2.2.2.1.2.2 2)) 1)) 1 ((vp_updL (vp_updL x.2.2.2.1.2.2 3 (x.2.2.2.1.2.2 2)) 2 ((vp_updL x.2.2.2.1.2.2 3 (x.2.2.2.1.2.2 2)) 1)) 0))) (x := (x.2.2.2.1.2.2 (r1).toNatClampNeg)) (W' := (wM cI cJ ad (x.1, x.2.1, x.2.2.1, (x.2.2.2.1.1, (upd (upd (upd (upd x.2.2.2.1.2.1 3 (x.2.2.2.1.2.1 2)) 2 ((upd x.2.2.2.1.2.1 3 (x.2.2.2.1.2.1 2)) 1)) 1 ((upd (upd x.2.2.2.1.2.1 3 (x.2.2.2.1.2.1 2)) 2 ((upd x.2.2.2.1.2.1 3 (x.2.2.2.1.2.1 2)) 1)) 0)) 0 (((64 : Int32) * a0) + a1)), (vp_updL (vp_updL (vp_updL (vp_updL x.2.2.2.1.2.2 3 (x.2.2.2.1.2.2 2)) 2 ((vp_updL x.2.2.2.1.2.2 3 (x.2.2.2.1.2.2 2)) 1)) 1 ((vp_updL (vp_updL x.2.2.2.1.2.2 3 (x.2.2.2.1.2.2 2)) 2 ((vp_updL x.2.2.2.1.2.2 3 (x.2.2.2.1.2.2 2)) 1)) 0)) 0 (x.2.2.2.1.2.2 (r1).toNatClampNeg))), x.2.2.2.2.1, x.2.2.2.2.2.1, x.2.2.2.2.2.2.1, x.2.2.2.2.2.2.2.1, x.2.2.2.2.2.2.2.2.1, x.2.2.2.2.2.2.2.2.2.1, x.2.2.2.2.2.2.2.2.2.2.1, x.2.2.2.2.2.2.2.2.2.2.2.1, x.2.2.2.2.2.2.2.2.2.2.2.2.1, x.2.2.2.2.2.2.2.2.2.2.2.2.2.1, x.2.2.2.2.2.2.2.2.2.2.2.2.2.2))) hx hb hK hP hD hS 6 1 rfl rfl (inL (by decide)) (by decide) dX5_lookPage_163 rfl (fun H locs hP hD hS => ?_)
    refine lv_lload hx hb dX5_lookPage_164 (lv_at hl 1 rfl) ?_
    exact retl (u := (x.1, x.2.1, x.2.2.1, (x.2.2.2.1.1, (upd (upd (upd (upd x.2.2.2.1.2.1 3 (x.2.2.2.1.2.1 2)) 2 ((upd x.2.2.2.1.2.1 3 (x.2.2.2.1.2.1 2)) 1)) 1 ((upd (upd x.2.2.2.1.2.1 3 (x.2.2.2.1.2.1 2)) 2 ((upd x.2.2.2.1.2.1 3 (x.2.2.2.1.2.1 2)) 1)) 0)) 0 (((64 : Int32) * a0) + a1)), (vp_updL (vp_updL (vp_updL (vp_updL x.2.2.2.1.2.2 3 (x.2.2.2.1.2.2 2)) 2 ((vp_updL x.2.2.2.1.2.2 3 (x.2.2.2.1.2.2 2)) 1)) 1 ((vp_updL (vp_updL x.2.2.2.1.2.2 3 (x.2.2.2.1.2.2 2)) 2 ((vp_updL x.2.2.2.1.2.2 3 (x.2.2.2.1.2.2 2)) 1)) 0)) 0 (x.2.2.2.1.2.2 (r1).toNatClampNeg))), x.2.2.2.2.1, x.2.2.2.2.2.1, x.2.2.2.2.2.2.1, x.2.2.2.2.2.2.2.1, x.2.2.2.2.2.2.2.2.1, x.2.2.2.2.2.2.2.2.2.1, x.2.2.2.2.2.2.2.2.2.2.1, x.2.2.2.2.2.2.2.2.2.2.2.1, x.2.2.2.2.2.2.2.2.2.2.2.2.1, x.2.2.2.2.2.2.2.2.2.2.2.2.2.1, x.2.2.2.2.2.2.2.2.2.2.2.2.2.2)) hx hb hr hlocks hK hP hD hS dX5_lookPage_166 (by unfold fnX5_lookPage; rw [← q1]; (try dsimp only); rw [if_pos h2]; rw [if_neg h3]; rw [if_neg h4]; rw [if_neg h5]; (try exact rfl))
  · refine lv_aload_n hx hb dX5_lookPage_13 rfl (lv_at hl 1 rfl) ?_
    refine va_get (D := D) (ci := 5) (v := .ref (ad 1)) hx hb hG inX5 hown hK hP 0 rfl rfl 1 (by decide) (hG _ kw263) (fun _ h9 => h9) rfl dX5_lookPage_14 ?_
    refine lv_iload_n hx hb dX5_lookPage_17 rfl (lv_at hl 4 rfl) ?_
    refine gl (D := D) (j := (a2).toNatClampNeg) (f := x.2.1) hx hb hK hP 1 1 rfl rfl (in12 g2) rfl dX5_lookPage_18 ?_
    refine lv_goto (tgt := 29) hx hb dX5_lookPage_19 (by decide) ?_
    refine lv_lstore (lv' := [(5, .long ((x.2.1 (a2).toNatClampNeg))), (4, .int (r1)), (0, .ref (ad 0)), (1, .int (a0)), (2, .int (a1)), (3, .int (a2))]) hx hb dX5_lookPage_29 hl (by decide) rfl (fun ls hl => ?_)
    refine lv_iload hx hb dX5_lookPage_31 (lv_at hl 1 rfl) ?_
    refine lv_if_ge (tgt := 50) hx hb dX5_lookPage_33 (by decide) (fun h9 => absurd h9 h2) (fun _ => ?_)
    refine lv_lload hx hb dX5_lookPage_36 (lv_at hl 0 rfl) ?_
    refine lv_ldc2 (v := 34359738368) hx hb hown (hG _ kw236) dX5_lookPage_38 ?_
    refine lv_land hx hb dX5_lookPage_41 ?_
    refine lv_lconst (v := 0) hx hb dX5_lookPage_42 (by decide) ?_
    refine lq_ne (tgt := 50) hx hb dX5_lookPage_43 dX5_lookPage_44 (by decide) (fun h7 => ?_) (fun h7 => ?_)
    · refine lv_iload hx hb dX5_lookPage_50 (lv_at hl 1 rfl) ?_
      refine lv_if_ge (tgt := 101) hx hb dX5_lookPage_52 (by decide) (fun h9 => absurd h9 h2) (fun _ => ?_)
      refine lv_lload hx hb dX5_lookPage_55 (lv_at hl 0 rfl) ?_
      refine lv_ldc2 (v := 17179869184) hx hb hown (hG _ kw269) dX5_lookPage_57 ?_
      refine lv_lor hx hb dX5_lookPage_60 ?_
      refine lv_lstore (lv' := [(5, .long (((x.2.1 (a2).toNatClampNeg) ||| (17179869184 : Int64)))), (4, .int (r1)), (0, .ref (ad 0)), (1, .int (a0)), (2, .int (a1)), (3, .int (a2))]) hx hb dX5_lookPage_61 hl (by decide) rfl (fun ls hl => ?_)
      refine lv_aload_n hx hb dX5_lookPage_63 rfl (lv_at hl 2 rfl) ?_
      refine va_get (D := D) (ci := 5) (v := .ref (ad 1)) hx hb hG inX5 hown hK hP 0 rfl rfl 1 (by decide) (hG _ kw263) (fun _ h9 => h9) rfl dX5_lookPage_64 ?_
      refine lv_iload_n hx hb dX5_lookPage_67 rfl (lv_at hl 5 rfl) ?_
      refine lv_lload hx hb dX5_lookPage_68 (lv_at hl 0 rfl) ?_
      refine sl (D := D) (j := (a2).toNatClampNeg) (f := x.2.1) (x := ((x.2.1 (a2).toNatClampNeg) ||| (17179869184 : Int64))) (W' := (wM cI cJ ad (x.1, (vp_updL x.2.1 (a2).toNatClampNeg ((x.2.1 (a2).toNatClampNeg) ||| (17179869184 : Int64))), x.2.2.1, x.2.2.2.1, x.2.2.2.2.1, x.2.2.2.2.2.1, x.2.2.2.2.2.2.1, x.2.2.2.2.2.2.2.1, x.2.2.2.2.2.2.2.2.1, x.2.2.2.2.2.2.2.2.2.1, x.2.2.2.2.2.2.2.2.2.2.1, x.2.2.2.2.2.2.2.2.2.2.2.1, x.2.2.2.2.2.2.2.2.2.2.2.2.1, x.2.2.2.2.2.2.2.2.2.2.2.2.2.1, x.2.2.2.2.2.2.2.2.2.2.2.2.2.2))) hx hb hK hP hD hS 1 1 rfl rfl (in12 g2) rfl dX5_lookPage_70 rfl (fun H locs hP hD hS => ?_)
      refine lv_aload_n hx hb dX5_lookPage_71 rfl (lv_at hl 2 rfl) ?_
      refine lv_aload_n hx hb dX5_lookPage_72 rfl (lv_at hl 2 rfl) ?_
      refine va_get (D := D) (ci := 5) (v := .int (x.2.2.2.1.1)) hx hb hG inX5 hown hK hP 0 rfl rfl 3 (by decide) (hG _ kw253) (fun _ h9 => h9) rfl dX5_lookPage_73 ?_
      refine lv_iconst (v := 4) hx hb dX5_lookPage_76 (by decide) ?_
      refine lv_icmp_ge (tgt := 89) hx hb dX5_lookPage_77 (by decide) (fun h8 => ?_) (fun h8 => ?_)
      · refine lv_iconst (v := 4) hx hb dX5_lookPage_89 (by decide) ?_
        refine pu (D := D) (ci := 5) (v := .int ((4 : Int32))) (ty := .int) (W' := (wM cI cJ ad (x.1, (vp_updL x.2.1 (a2).toNatClampNeg ((x.2.1 (a2).toNatClampNeg) ||| (17179869184 : Int64))), x.2.2.1, ((4 : Int32), x.2.2.2.1.2.1, x.2.2.2.1.2.2), x.2.2.2.2.1, x.2.2.2.2.2.1, x.2.2.2.2.2.2.1, x.2.2.2.2.2.2.2.1, x.2.2.2.2.2.2.2.2.1, x.2.2.2.2.2.2.2.2.2.1, x.2.2.2.2.2.2.2.2.2.2.1, x.2.2.2.2.2.2.2.2.2.2.2.1, x.2.2.2.2.2.2.2.2.2.2.2.2.1, x.2.2.2.2.2.2.2.2.2.2.2.2.2.1, x.2.2.2.2.2.2.2.2.2.2.2.2.2.2))) hx hb hG inX5 tyX5 tyokX5 nmX5 hown hK hP hD hS 0 rfl rfl 3 (by decide) (hG _ kw253) (fun _ h9 => h9) rfl (by decide +kernel) rfl rfl (Nat.le_of_ble_eq_true rfl) dX5_lookPage_90 rfl (fun H locs hP hD hS => ?_)
        refine lv_aload_n hx hb dX5_lookPage_93 rfl (lv_at hl 2 rfl) ?_
        refine va_get (D := D) (ci := 5) (v := .int ((4 : Int32))) hx hb hG inX5 hown hK hP 0 rfl rfl 3 (by decide) (hG _ kw253) (fun _ h9 => h9) rfl dX5_lookPage_94 ?_
        refine lv_iconst (v := 1) hx hb dX5_lookPage_97 (by decide) ?_
        refine lv_isub hx hb dX5_lookPage_98 ?_
        refine tI (y := 3) (by decide) ?_
        refine lv_istore (lv' := [(4, .int ((3 : Int32))), (5, .long (((x.2.1 (a2).toNatClampNeg) ||| (17179869184 : Int64)))), (0, .ref (ad 0)), (1, .int (a0)), (2, .int (a1)), (3, .int (a2))]) hx hb dX5_lookPage_99 hl (by decide) rfl (fun ls hl => ?_)
        refine lv_iload hx hb dX5_lookPage_101 (lv_at hl 0 rfl) ?_
        refine lv_if_le (tgt := 144) hx hb dX5_lookPage_103 (by decide) (fun h9 => absurd h9 (by decide)) (fun _ => ?_)
        refine lv_aload_n hx hb dX5_lookPage_106 rfl (lv_at hl 2 rfl) ?_
        refine va_get (D := D) (ci := 5) (v := .ref (ad 3)) hx hb hG inX5 hown hK hP 0 rfl rfl 5 (by decide) (hG _ kw254) (fun _ h9 => h9) rfl dX5_lookPage_107 ?_
        refine lv_iload hx hb dX5_lookPage_110 (lv_at hl 0 rfl) ?_
        refine lv_aload_n hx hb dX5_lookPage_112 rfl (lv_at hl 2 rfl) ?_
        refine va_get (D := D) (ci := 5) (v := .ref (ad 3)) hx hb hG inX5 hown hK hP 0 rfl rfl 5 (by decide) (hG _ kw254) (fun _ h9 => h9) rfl dX5_lookPage_113 ?_
        refine lv_iload hx hb dX5_lookPage_116 (lv_at hl 0 rfl) ?_
        refine lv_iconst (v := 1) hx hb dX5_lookPage_118 (by decide) ?_
        refine lv_isub hx hb dX5_lookPage_119 ?_
        refine tI (y := 2) (by decide) ?_
        refine gi (D := D) (j := 2) (f := x.2.2.2.1.2.1) hx hb hK hP 3 0 rfl rfl (inL (by decide)) (by decide) dX5_lookPage_120 ?_
        refine si (D := D) (j := 3) (f := x.2.2.2.1.2.1) (x := (x.2.2.2.1.2.1 2)) (W' := (wM cI cJ ad (x.1, (vp_updL x.2.1 (a2).toNatClampNeg ((x.2.1 (a2).toNatClampNeg) ||| (17179869184 : Int64))), x.2.2.1, ((4 : Int32), (upd x.2.2.2.1.2.1 3 (x.2.2.2.1.2.1 2)), x.2.2.2.1.2.2), x.2.2.2.2.1, x.2.2.2.2.2.1, x.2.2.2.2.2.2.1, x.2.2.2.2.2.2.2.1, x.2.2.2.2.2.2.2.2.1, x.2.2.2.2.2.2.2.2.2.1, x.2.2.2.2.2.2.2.2.2.2.1, x.2.2.2.2.2.2.2.2.2.2.2.1, x.2.2.2.2.2.2.2.2.2.2.2.2.1, x.2.2.2.2.2.2.2.2.2.2.2.2.2.1, x.2.2.2.2.2.2.2.2.2.2.2.2.2.2))) hx hb hK hP hD hS 3 0 rfl rfl (inL (by decide)) (by decide) dX5_lookPage_121 rfl (fun H locs hP hD hS => ?_)
        refine lv_aload_n hx hb dX5_lookPage_122 rfl (lv_at hl 2 rfl) ?_
        refine va_get (D := D) (ci := 5) (v := .ref (ad 6)) hx hb hG inX5 hown hK hP 0 rfl rfl 8 (by decide) (hG _ kw268) (fun _ h9 => h9) rfl dX5_lookPage_123 ?_
        refine lv_iload hx hb dX5_lookPage_126 (lv_at hl 0 rfl) ?_
        refine lv_aload_n hx hb dX5_lookPage_128 rfl (lv_at hl 2 rfl) ?_
        refine va_get (D := D) (ci := 5) (v := .ref (ad 6)) hx hb hG inX5 hown hK hP 0 rfl rfl 8 (by decide) (hG _ kw268) (fun _ h9 => h9) rfl dX5_lookPage_129 ?_
        refine lv_iload hx hb dX5_lookPage_132 (lv_at hl 0 rfl) ?_
        refine lv_iconst (v := 1) hx hb dX5_lookPage_134 (by decide) ?_
        refine lv_isub hx hb dX5_lookPage_135 ?_
        refine tI (y := 2) (by decide) ?_
        refine gl (D := D) (j := 2) (f := x.2.2.2.1.2.2) hx hb hK hP 6 1 rfl rfl (inL (by decide)) (by decide) dX5_lookPage_136 ?_
        refine sl (D := D) (j := 3) (f := x.2.2.2.1.2.2) (x := (x.2.2.2.1.2.2 2)) (W' := (wM cI cJ ad (x.1, (vp_updL x.2.1 (a2).toNatClampNeg ((x.2.1 (a2).toNatClampNeg) ||| (17179869184 : Int64))), x.2.2.1, ((4 : Int32), (upd x.2.2.2.1.2.1 3 (x.2.2.2.1.2.1 2)), (vp_updL x.2.2.2.1.2.2 3 (x.2.2.2.1.2.2 2))), x.2.2.2.2.1, x.2.2.2.2.2.1, x.2.2.2.2.2.2.1, x.2.2.2.2.2.2.2.1, x.2.2.2.2.2.2.2.2.1, x.2.2.2.2.2.2.2.2.2.1, x.2.2.2.2.2.2.2.2.2.2.1, x.2.2.2.2.2.2.2.2.2.2.2.1, x.2.2.2.2.2.2.2.2.2.2.2.2.1, x.2.2.2.2.2.2.2.2.2.2.2.2.2.1, x.2.2.2.2.2.2.2.2.2.2.2.2.2.2))) hx hb hK hP hD hS 6 1 rfl rfl (inL (by decide)) (by decide) dX5_lookPage_137 rfl (fun H locs hP hD hS => ?_)
        refine lv_iinc (k := 0) (v := (2 : Int32)) (lv' := [(4, .int ((2 : Int32))), (5, .long (((x.2.1 (a2).toNatClampNeg) ||| (17179869184 : Int64)))), (0, .ref (ad 0)), (1, .int (a0)), (2, .int (a1)), (3, .int (a2))]) hx hb dX5_lookPage_138 hl rfl (by decide) (by decide) rfl (fun ls hl => ?_)
        refine lv_goto (tgt := 101) hx hb dX5_lookPage_141 (by decide) ?_
        refine lv_iload hx hb dX5_lookPage_101 (lv_at hl 0 rfl) ?_
        refine lv_if_le (tgt := 144) hx hb dX5_lookPage_103 (by decide) (fun h9 => absurd h9 (by decide)) (fun _ => ?_)
        refine lv_aload_n hx hb dX5_lookPage_106 rfl (lv_at hl 2 rfl) ?_
        refine va_get (D := D) (ci := 5) (v := .ref (ad 3)) hx hb hG inX5 hown hK hP 0 rfl rfl 5 (by decide) (hG _ kw254) (fun _ h9 => h9) rfl dX5_lookPage_107 ?_
        refine lv_iload hx hb dX5_lookPage_110 (lv_at hl 0 rfl) ?_
        refine lv_aload_n hx hb dX5_lookPage_112 rfl (lv_at hl 2 rfl) ?_
        refine va_get (D := D) (ci := 5) (v := .ref (ad 3)) hx hb hG inX5 hown hK hP 0 rfl rfl 5 (by decide) (hG _ kw254) (fun _ h9 => h9) rfl dX5_lookPage_113 ?_
        refine lv_iload hx hb dX5_lookPage_116 (lv_at hl 0 rfl) ?_
        refine lv_iconst (v := 1) hx hb dX5_lookPage_118 (by decide) ?_
        refine lv_isub hx hb dX5_lookPage_119 ?_
        refine tI (y := 1) (by decide) ?_
        refine gi (D := D) (j := 1) (f := (upd x.2.2.2.1.2.1 3 (x.2.2.2.1.2.1 2))) hx hb hK hP 3 0 rfl rfl (inL (by decide)) (by decide) dX5_lookPage_120 ?_
        refine si (D := D) (j := 2) (f := (upd x.2.2.2.1.2.1 3 (x.2.2.2.1.2.1 2))) (x := ((upd x.2.2.2.1.2.1 3 (x.2.2.2.1.2.1 2)) 1)) (W' := (wM cI cJ ad (x.1, (vp_updL x.2.1 (a2).toNatClampNeg ((x.2.1 (a2).toNatClampNeg) ||| (17179869184 : Int64))), x.2.2.1, ((4 : Int32), (upd (upd x.2.2.2.1.2.1 3 (x.2.2.2.1.2.1 2)) 2 ((upd x.2.2.2.1.2.1 3 (x.2.2.2.1.2.1 2)) 1)), (vp_updL x.2.2.2.1.2.2 3 (x.2.2.2.1.2.2 2))), x.2.2.2.2.1, x.2.2.2.2.2.1, x.2.2.2.2.2.2.1, x.2.2.2.2.2.2.2.1, x.2.2.2.2.2.2.2.2.1, x.2.2.2.2.2.2.2.2.2.1, x.2.2.2.2.2.2.2.2.2.2.1, x.2.2.2.2.2.2.2.2.2.2.2.1, x.2.2.2.2.2.2.2.2.2.2.2.2.1, x.2.2.2.2.2.2.2.2.2.2.2.2.2.1, x.2.2.2.2.2.2.2.2.2.2.2.2.2.2))) hx hb hK hP hD hS 3 0 rfl rfl (inL (by decide)) (by decide) dX5_lookPage_121 rfl (fun H locs hP hD hS => ?_)
        refine lv_aload_n hx hb dX5_lookPage_122 rfl (lv_at hl 2 rfl) ?_
        refine va_get (D := D) (ci := 5) (v := .ref (ad 6)) hx hb hG inX5 hown hK hP 0 rfl rfl 8 (by decide) (hG _ kw268) (fun _ h9 => h9) rfl dX5_lookPage_123 ?_
        refine lv_iload hx hb dX5_lookPage_126 (lv_at hl 0 rfl) ?_
        refine lv_aload_n hx hb dX5_lookPage_128 rfl (lv_at hl 2 rfl) ?_
        refine va_get (D := D) (ci := 5) (v := .ref (ad 6)) hx hb hG inX5 hown hK hP 0 rfl rfl 8 (by decide) (hG _ kw268) (fun _ h9 => h9) rfl dX5_lookPage_129 ?_
        refine lv_iload hx hb dX5_lookPage_132 (lv_at hl 0 rfl) ?_
        refine lv_iconst (v := 1) hx hb dX5_lookPage_134 (by decide) ?_
        refine lv_isub hx hb dX5_lookPage_135 ?_
        refine tI (y := 1) (by decide) ?_
        refine gl (D := D) (j := 1) (f := (vp_updL x.2.2.2.1.2.2 3 (x.2.2.2.1.2.2 2))) hx hb hK hP 6 1 rfl rfl (inL (by decide)) (by decide) dX5_lookPage_136 ?_
        refine sl (D := D) (j := 2) (f := (vp_updL x.2.2.2.1.2.2 3 (x.2.2.2.1.2.2 2))) (x := ((vp_updL x.2.2.2.1.2.2 3 (x.2.2.2.1.2.2 2)) 1)) (W' := (wM cI cJ ad (x.1, (vp_updL x.2.1 (a2).toNatClampNeg ((x.2.1 (a2).toNatClampNeg) ||| (17179869184 : Int64))), x.2.2.1, ((4 : Int32), (upd (upd x.2.2.2.1.2.1 3 (x.2.2.2.1.2.1 2)) 2 ((upd x.2.2.2.1.2.1 3 (x.2.2.2.1.2.1 2)) 1)), (vp_updL (vp_updL x.2.2.2.1.2.2 3 (x.2.2.2.1.2.2 2)) 2 ((vp_updL x.2.2.2.1.2.2 3 (x.2.2.2.1.2.2 2)) 1))), x.2.2.2.2.1, x.2.2.2.2.2.1, x.2.2.2.2.2.2.1, x.2.2.2.2.2.2.2.1, x.2.2.2.2.2.2.2.2.1, x.2.2.2.2.2.2.2.2.2.1, x.2.2.2.2.2.2.2.2.2.2.1, x.2.2.2.2.2.2.2.2.2.2.2.1, x.2.2.2.2.2.2.2.2.2.2.2.2.1, x.2.2.2.2.2.2.2.2.2.2.2.2.2.1, x.2.2.2.2.2.2.2.2.2.2.2.2.2.2))) hx hb hK hP hD hS 6 1 rfl rfl (inL (by decide)) (by decide) dX5_lookPage_137 rfl (fun H locs hP hD hS => ?_)
        refine lv_iinc (k := 0) (v := (1 : Int32)) (lv' := [(4, .int ((1 : Int32))), (5, .long (((x.2.1 (a2).toNatClampNeg) ||| (17179869184 : Int64)))), (0, .ref (ad 0)), (1, .int (a0)), (2, .int (a1)), (3, .int (a2))]) hx hb dX5_lookPage_138 hl rfl (by decide) (by decide) rfl (fun ls hl => ?_)
        refine lv_goto (tgt := 101) hx hb dX5_lookPage_141 (by decide) ?_
        refine lv_iload hx hb dX5_lookPage_101 (lv_at hl 0 rfl) ?_
        refine lv_if_le (tgt := 144) hx hb dX5_lookPage_103 (by decide) (fun h9 => absurd h9 (by decide)) (fun _ => ?_)
        refine lv_aload_n hx hb dX5_lookPage_106 rfl (lv_at hl 2 rfl) ?_
        refine va_get (D := D) (ci := 5) (v := .ref (ad 3)) hx hb hG inX5 hown hK hP 0 rfl rfl 5 (by decide) (hG _ kw254) (fun _ h9 => h9) rfl dX5_lookPage_107 ?_
        refine lv_iload hx hb dX5_lookPage_110 (lv_at hl 0 rfl) ?_
        refine lv_aload_n hx hb dX5_lookPage_112 rfl (lv_at hl 2 rfl) ?_
        refine va_get (D := D) (ci := 5) (v := .ref (ad 3)) hx hb hG inX5 hown hK hP 0 rfl rfl 5 (by decide) (hG _ kw254) (fun _ h9 => h9) rfl dX5_lookPage_113 ?_
        refine lv_iload hx hb dX5_lookPage_116 (lv_at hl 0 rfl) ?_
        refine lv_iconst (v := 1) hx hb dX5_lookPage_118 (by decide) ?_
        refine lv_isub hx hb dX5_lookPage_119 ?_
        refine tI (y := 0) (by decide) ?_
        refine gi (D := D) (j := 0) (f := (upd (upd x.2.2.2.1.2.1 3 (x.2.2.2.1.2.1 2)) 2 ((upd x.2.2.2.1.2.1 3 (x.2.2.2.1.2.1 2)) 1))) hx hb hK hP 3 0 rfl rfl (inL (by decide)) (by decide) dX5_lookPage_120 ?_
        refine si (D := D) (j := 1) (f := (upd (upd x.2.2.2.1.2.1 3 (x.2.2.2.1.2.1 2)) 2 ((upd x.2.2.2.1.2.1 3 (x.2.2.2.1.2.1 2)) 1))) (x := ((upd (upd x.2.2.2.1.2.1 3 (x.2.2.2.1.2.1 2)) 2 ((upd x.2.2.2.1.2.1 3 (x.2.2.2.1.2.1 2)) 1)) 0)) (W' := (wM cI cJ ad (x.1, (vp_updL x.2.1 (a2).toNatClampNeg ((x.2.1 (a2).toNatClampNeg) ||| (17179869184 : Int64))), x.2.2.1, ((4 : Int32), (upd (upd (upd x.2.2.2.1.2.1 3 (x.2.2.2.1.2.1 2)) 2 ((upd x.2.2.2.1.2.1 3 (x.2.2.2.1.2.1 2)) 1)) 1 ((upd (upd x.2.2.2.1.2.1 3 (x.2.2.2.1.2.1 2)) 2 ((upd x.2.2.2.1.2.1 3 (x.2.2.2.1.2.1 2)) 1)) 0)), (vp_updL (vp_updL x.2.2.2.1.2.2 3 (x.2.2.2.1.2.2 2)) 2 ((vp_updL x.2.2.2.1.2.2 3 (x.2.2.2.1.2.2 2)) 1))), x.2.2.2.2.1, x.2.2.2.2.2.1, x.2.2.2.2.2.2.1, x.2.2.2.2.2.2.2.1, x.2.2.2.2.2.2.2.2.1, x.2.2.2.2.2.2.2.2.2.1, x.2.2.2.2.2.2.2.2.2.2.1, x.2.2.2.2.2.2.2.2.2.2.2.1, x.2.2.2.2.2.2.2.2.2.2.2.2.1, x.2.2.2.2.2.2.2.2.2.2.2.2.2.1, x.2.2.2.2.2.2.2.2.2.2.2.2.2.2))) hx hb hK hP hD hS 3 0 rfl rfl (inL (by decide)) (by decide) dX5_lookPage_121 rfl (fun H locs hP hD hS => ?_)
        refine lv_aload_n hx hb dX5_lookPage_122 rfl (lv_at hl 2 rfl) ?_
        refine va_get (D := D) (ci := 5) (v := .ref (ad 6)) hx hb hG inX5 hown hK hP 0 rfl rfl 8 (by decide) (hG _ kw268) (fun _ h9 => h9) rfl dX5_lookPage_123 ?_
        refine lv_iload hx hb dX5_lookPage_126 (lv_at hl 0 rfl) ?_
        refine lv_aload_n hx hb dX5_lookPage_128 rfl (lv_at hl 2 rfl) ?_
        refine va_get (D := D) (ci := 5) (v := .ref (ad 6)) hx hb hG inX5 hown hK hP 0 rfl rfl 8 (by decide) (hG _ kw268) (fun _ h9 => h9) rfl dX5_lookPage_129 ?_
        refine lv_iload hx hb dX5_lookPage_132 (lv_at hl 0 rfl) ?_
        refine lv_iconst (v := 1) hx hb dX5_lookPage_134 (by decide) ?_
        refine lv_isub hx hb dX5_lookPage_135 ?_
        refine tI (y := 0) (by decide) ?_
        refine gl (D := D) (j := 0) (f := (vp_updL (vp_updL x.2.2.2.1.2.2 3 (x.2.2.2.1.2.2 2)) 2 ((vp_updL x.2.2.2.1.2.2 3 (x.2.2.2.1.2.2 2)) 1))) hx hb hK hP 6 1 rfl rfl (inL (by decide)) (by decide) dX5_lookPage_136 ?_
        refine sl (D := D) (j := 1) (f := (vp_updL (vp_updL x.2.2.2.1.2.2 3 (x.2.2.2.1.2.2 2)) 2 ((vp_updL x.2.2.2.1.2.2 3 (x.2.2.2.1.2.2 2)) 1))) (x := ((vp_updL (vp_updL x.2.2.2.1.2.2 3 (x.2.2.2.1.2.2 2)) 2 ((vp_updL x.2.2.2.1.2.2 3 (x.2.2.2.1.2.2 2)) 1)) 0)) (W' := (wM cI cJ ad (x.1, (vp_updL x.2.1 (a2).toNatClampNeg ((x.2.1 (a2).toNatClampNeg) ||| (17179869184 : Int64))), x.2.2.1, ((4 : Int32), (upd (upd (upd x.2.2.2.1.2.1 3 (x.2.2.2.1.2.1 2)) 2 ((upd x.2.2.2.1.2.1 3 (x.2.2.2.1.2.1 2)) 1)) 1 ((upd (upd x.2.2.2.1.2.1 3 (x.2.2.2.1.2.1 2)) 2 ((upd x.2.2.2.1.2.1 3 (x.2.2.2.1.2.1 2)) 1)) 0)), (vp_updL (vp_updL (vp_updL x.2.2.2.1.2.2 3 (x.2.2.2.1.2.2 2)) 2 ((vp_updL x.2.2.2.1.2.2 3 (x.2.2.2.1.2.2 2)) 1)) 1 ((vp_updL (vp_updL x.2.2.2.1.2.2 3 (x.2.2.2.1.2.2 2)) 2 ((vp_updL x.2.2.2.1.2.2 3 (x.2.2.2.1.2.2 2)) 1)) 0))), x.2.2.2.2.1, x.2.2.2.2.2.1, x.2.2.2.2.2.2.1, x.2.2.2.2.2.2.2.1, x.2.2.2.2.2.2.2.2.1, x.2.2.2.2.2.2.2.2.2.1, x.2.2.2.2.2.2.2.2.2.2.1, x.2.2.2.2.2.2.2.2.2.2.2.1, x.2.2.2.2.2.2.2.2.2.2.2.2.1, x.2.2.2.2.2.2.2.2.2.2.2.2.2.1, x.2.2.2.2.2.2.2.2.2.2.2.2.2.2))) hx hb hK hP hD hS 6 1 rfl rfl (inL (by decide)) (by decide) dX5_lookPage_137 rfl (fun H locs hP hD hS => ?_)
        refine lv_iinc (k := 0) (v := (0 : Int32)) (lv' := [(4, .int ((0 : Int32))), (5, .long (((x.2.1 (a2).toNatClampNeg) ||| (17179869184 : Int64)))), (0, .ref (ad 0)), (1, .int (a0)), (2, .int (a1)), (3, .int (a2))]) hx hb dX5_lookPage_138 hl rfl (by decide) (by decide) rfl (fun ls hl => ?_)
        refine lv_goto (tgt := 101) hx hb dX5_lookPage_141 (by decide) ?_
        refine lv_iload hx hb dX5_lookPage_101 (lv_at hl 0 rfl) ?_
        refine lv_if_le (tgt := 144) hx hb dX5_lookPage_103 (by decide) (fun _ => ?_) (fun h9 => absurd (by decide) h9)
        refine lv_aload_n hx hb dX5_lookPage_144 rfl (lv_at hl 2 rfl) ?_
        refine va_get (D := D) (ci := 5) (v := .ref (ad 3)) hx hb hG inX5 hown hK hP 0 rfl rfl 5 (by decide) (hG _ kw254) (fun _ h9 => h9) rfl dX5_lookPage_145 ?_
        refine lv_iconst (v := 0) hx hb dX5_lookPage_148 (by decide) ?_
        refine lv_bipush (v := 64) hx hb dX5_lookPage_149 (by decide) ?_
        refine lv_iload_n hx hb dX5_lookPage_151 rfl (lv_at hl 3 rfl) ?_
        refine lv_imul hx hb dX5_lookPage_152 ?_
        refine lv_iload_n hx hb dX5_lookPage_153 rfl (lv_at hl 4 rfl) ?_
        refine lv_iadd hx hb dX5_lookPage_154 ?_
        refine si (D := D) (j := 0) (f := (upd (upd (upd x.2.2.2.1.2.1 3 (x.2.2.2.1.2.1 2)) 2 ((upd x.2.2.2.1.2.1 3 (x.2.2.2.1.2.1 2)) 1)) 1 ((upd (upd x.2.2.2.1.2.1 3 (x.2.2.2.1.2.1 2)) 2 ((upd x.2.2.2.1.2.1 3 (x.2.2.2.1.2.1 2)) 1)) 0))) (x := (((64 : Int32) * a0) + a1)) (W' := (wM cI cJ ad (x.1, (vp_updL x.2.1 (a2).toNatClampNeg ((x.2.1 (a2).toNatClampNeg) ||| (17179869184 : Int64))), x.2.2.1, ((4 : Int32), (upd (upd (upd (upd x.2.2.2.1.2.1 3 (x.2.2.2.1.2.1 2)) 2 ((upd x.2.2.2.1.2.1 3 (x.2.2.2.1.2.1 2)) 1)) 1 ((upd (upd x.2.2.2.1.2.1 3 (x.2.2.2.1.2.1 2)) 2 ((upd x.2.2.2.1.2.1 3 (x.2.2.2.1.2.1 2)) 1)) 0)) 0 (((64 : Int32) * a0) + a1)), (vp_updL (vp_updL (vp_updL x.2.2.2.1.2.2 3 (x.2.2.2.1.2.2 2)) 2 ((vp_updL x.2.2.2.1.2.2 3 (x.2.2.2.1.2.2 2)) 1)) 1 ((vp_updL (vp_updL x.2.2.2.1.2.2 3 (x.2.2.2.1.2.2 2)) 2 ((vp_updL x.2.2.2.1.2.2 3 (x.2.2.2.1.2.2 2)) 1)) 0))), x.2.2.2.2.1, x.2.2.2.2.2.1, x.2.2.2.2.2.2.1, x.2.2.2.2.2.2.2.1, x.2.2.2.2.2.2.2.2.1, x.2.2.2.2.2.2.2.2.2.1, x.2.2.2.2.2.2.2.2.2.2.1, x.2.2.2.2.2.2.2.2.2.2.2.1, x.2.2.2.2.2.2.2.2.2.2.2.2.1, x.2.2.2.2.2.2.2.2.2.2.2.2.2.1, x.2.2.2.2.2.2.2.2.2.2.2.2.2.2))) hx hb hK hP hD hS 3 0 rfl rfl (inL (by decide)) (by decide) dX5_lookPage_155 rfl (fun H locs hP hD hS => ?_)
        refine lv_aload_n hx hb dX5_lookPage_156 rfl (lv_at hl 2 rfl) ?_
        refine va_get (D := D) (ci := 5) (v := .ref (ad 6)) hx hb hG inX5 hown hK hP 0 rfl rfl 8 (by decide) (hG _ kw268) (fun _ h9 => h9) rfl dX5_lookPage_157 ?_
        refine lv_iconst (v := 0) hx hb dX5_lookPage_160 (by decide) ?_
        refine lv_lload hx hb dX5_lookPage_161 (lv_at hl 1 rfl) ?_
        refine sl (D := D) (j := 0) (f := (vp_updL (vp_updL (vp_updL x.2.2.2.1.2.2 3 (x.2.2.2.1.2.2 2)) 2 ((vp_updL x.2.2.2.1.2.2 3 (x.2.2.2.1.2.2 2)) 1)) 1 ((vp_updL (vp_updL x.2.2.2.1.2.2 3 (x.2.2.2.1.2.2 2)) 2 ((vp_updL x.2.2.2.1.2.2 3 (x.2.2.2.1.2.2 2)) 1)) 0))) (x := ((x.2.1 (a2).toNatClampNeg) ||| (17179869184 : Int64))) (W' := (wM cI cJ ad (x.1, (vp_updL x.2.1 (a2).toNatClampNeg ((x.2.1 (a2).toNatClampNeg) ||| (17179869184 : Int64))), x.2.2.1, ((4 : Int32), (upd (upd (upd (upd x.2.2.2.1.2.1 3 (x.2.2.2.1.2.1 2)) 2 ((upd x.2.2.2.1.2.1 3 (x.2.2.2.1.2.1 2)) 1)) 1 ((upd (upd x.2.2.2.1.2.1 3 (x.2.2.2.1.2.1 2)) 2 ((upd x.2.2.2.1.2.1 3 (x.2.2.2.1.2.1 2)) 1)) 0)) 0 (((64 : Int32) * a0) + a1)), (vp_updL (vp_updL (vp_updL (vp_updL x.2.2.2.1.2.2 3 (x.2.2.2.1.2.2 2)) 2 ((vp_updL x.2.2.2.1.2.2 3 (x.2.2.2.1.2.2 2)) 1)) 1 ((vp_updL (vp_updL x.2.2.2.1.2.2 3 (x.2.2.2.1.2.2 2)) 2 ((vp_updL x.2.2.2.1.2.2 3 (x.2.2.2.1.2.2 2)) 1)) 0)) 0 ((x.2.1 (a2).toNatClampNeg) ||| (17179869184 : Int64)))), x.2.2.2.2.1, x.2.2.2.2.2.1, x.2.2.2.2.2.2.1, x.2.2.2.2.2.2.2.1, x.2.2.2.2.2.2.2.2.1, x.2.2.2.2.2.2.2.2.2.1, x.2.2.2.2.2.2.2.2.2.2.1, x.2.2.2.2.2.2.2.2.2.2.2.1, x.2.2.2.2.2.2.2.2.2.2.2.2.1, x.2.2.2.2.2.2.2.2.2.2.2.2.2.1, x.2.2.2.2.2.2.2.2.2.2.2.2.2.2))) hx hb hK hP hD hS 6 1 rfl rfl (inL (by decide)) (by decide) dX5_lookPage_163 rfl (fun H locs hP hD hS => ?_)
        refine lv_lload hx hb dX5_lookPage_164 (lv_at hl 1 rfl) ?_
        exact retl (u := (x.1, (vp_updL x.2.1 (a2).toNatClampNeg ((x.2.1 (a2).toNatClampNeg) ||| (17179869184 : Int64))), x.2.2.1, ((4 : Int32), (upd (upd (upd (upd x.2.2.2.1.2.1 3 (x.2.2.2.1.2.1 2)) 2 ((upd x.2.2.2.1.2.1 3 (x.2.2.2.1.2.1 2)) 1)) 1 ((upd (upd x.2.2.2.1.2.1 3 (x.2.2.2.1.2.1 2)) 2 ((upd x.2.2.2.1.2.1 3 (x.2.2.2.1.2.1 2)) 1)) 0)) 0 (((64 : Int32) * a0) + a1)), (vp_updL (vp_updL (vp_updL (vp_updL x.2.2.2.1.2.2 3 (x.2.2.2.1.2.2 2)) 2 ((vp_updL x.2.2.2.1.2.2 3 (x.2.2.2.1.2.2 2)) 1)) 1 ((vp_updL (vp_updL x.2.2.2.1.2.2 3 (x.2.2.2.1.2.2 2)) 2 ((vp_updL x.2.2.2.1.2.2 3 (x.2.2.2.1.2.2 2)) 1)) 0)) 0 ((x.2.1 (a2).toNatClampNeg) ||| (17179869184 : Int64)))), x.2.2.2.2.1, x.2.2.2.2.2.1, x.2.2.2.2.2.2.1, x.2.2.2.2.2.2.2.1, x.2.2.2.2.2.2.2.2.1, x.2.2.2.2.2.2.2.2.2.1, x.2.2.2.2.2.2.2.2.2.2.1, x.2.2.2.2.2.2.2.2.2.2.2.1, x.2.2.2.2.2.2.2.2.2.2.2.2.1, x.2.2.2.2.2.2.2.2.2.2.2.2.2.1, x.2.2.2.2.2.2.2.2.2.2.2.2.2.2)) hx hb hr hlocks hK hP hD hS dX5_lookPage_166 (by unfold fnX5_lookPage; rw [← q1]; (try dsimp only); rw [if_neg h2]; rw [if_neg h7]; rw [if_pos h8]; (try exact rfl))
      · refine lv_aload_n hx hb dX5_lookPage_80 rfl (lv_at hl 2 rfl) ?_
        refine va_get (D := D) (ci := 5) (v := .int (x.2.2.2.1.1)) hx hb hG inX5 hown hK hP 0 rfl rfl 3 (by decide) (hG _ kw253) (fun _ h9 => h9) rfl dX5_lookPage_81 ?_
        refine lv_iconst (v := 1) hx hb dX5_lookPage_84 (by decide) ?_
        refine lv_iadd hx hb dX5_lookPage_85 ?_
        refine lv_goto (tgt := 90) hx hb dX5_lookPage_86 (by decide) ?_
        refine pu (D := D) (ci := 5) (v := .int ((x.2.2.2.1.1 + (1 : Int32)))) (ty := .int) (W' := (wM cI cJ ad (x.1, (vp_updL x.2.1 (a2).toNatClampNeg ((x.2.1 (a2).toNatClampNeg) ||| (17179869184 : Int64))), x.2.2.1, ((x.2.2.2.1.1 + (1 : Int32)), x.2.2.2.1.2.1, x.2.2.2.1.2.2), x.2.2.2.2.1, x.2.2.2.2.2.1, x.2.2.2.2.2.2.1, x.2.2.2.2.2.2.2.1, x.2.2.2.2.2.2.2.2.1, x.2.2.2.2.2.2.2.2.2.1, x.2.2.2.2.2.2.2.2.2.2.1, x.2.2.2.2.2.2.2.2.2.2.2.1, x.2.2.2.2.2.2.2.2.2.2.2.2.1, x.2.2.2.2.2.2.2.2.2.2.2.2.2.1, x.2.2.2.2.2.2.2.2.2.2.2.2.2.2))) hx hb hG inX5 tyX5 tyokX5 nmX5 hown hK hP hD hS 0 rfl rfl 3 (by decide) (hG _ kw253) (fun _ h9 => h9) rfl (by decide +kernel) rfl rfl (Nat.le_of_ble_eq_true rfl) dX5_lookPage_90 rfl (fun H locs hP hD hS => ?_)
        refine lv_aload_n hx hb dX5_lookPage_93 rfl (lv_at hl 2 rfl) ?_
        refine va_get (D := D) (ci := 5) (v := .int ((x.2.2.2.1.1 + (1 : Int32)))) hx hb hG inX5 hown hK hP 0 rfl rfl 3 (by decide) (hG _ kw253) (fun _ h9 => h9) rfl dX5_lookPage_94 ?_
        refine lv_iconst (v := 1) hx hb dX5_lookPage_97 (by decide) ?_
        refine lv_isub hx hb dX5_lookPage_98 ?_
        refine lv_istore (lv' := [(4, .int (((x.2.2.2.1.1 + (1 : Int32)) - (1 : Int32)))), (5, .long (((x.2.1 (a2).toNatClampNeg) ||| (17179869184 : Int64)))), (0, .ref (ad 0)), (1, .int (a0)), (2, .int (a1)), (3, .int (a2))]) hx hb dX5_lookPage_99 hl (by decide) rfl (fun ls hl => ?_)
        by_cases h9 : ((x.2.2.2.1.1 + (1 : Int32)) - (1 : Int32)) = (0 : Int32)
        · have hl : lv_has ls 7 [(4, .int ((0 : Int32))), (5, .long (((x.2.1 (a2).toNatClampNeg) ||| (17179869184 : Int64)))), (0, .ref (ad 0)), (1, .int (a0)), (2, .int (a1)), (3, .int (a2))] := lvc h9 (lv_sub hl [0, 1, 2, 3, 4, 5] rfl)
          refine lv_iload hx hb dX5_lookPage_101 (lv_at hl 0 rfl) ?_
          refine lv_if_le (tgt := 144) hx hb dX5_lookPage_103 (by decide) (fun _ => ?_) (fun h9 => absurd (by decide) h9)
          refine lv_aload_n hx hb dX5_lookPage_144 rfl (lv_at hl 2 rfl) ?_
          refine va_get (D := D) (ci := 5) (v := .ref (ad 3)) hx hb hG inX5 hown hK hP 0 rfl rfl 5 (by decide) (hG _ kw254) (fun _ h9 => h9) rfl dX5_lookPage_145 ?_
          refine lv_iconst (v := 0) hx hb dX5_lookPage_148 (by decide) ?_
          refine lv_bipush (v := 64) hx hb dX5_lookPage_149 (by decide) ?_
          refine lv_iload_n hx hb dX5_lookPage_151 rfl (lv_at hl 3 rfl) ?_
          refine lv_imul hx hb dX5_lookPage_152 ?_
          refine lv_iload_n hx hb dX5_lookPage_153 rfl (lv_at hl 4 rfl) ?_
          refine lv_iadd hx hb dX5_lookPage_154 ?_
          refine si (D := D) (j := 0) (f := x.2.2.2.1.2.1) (x := (((64 : Int32) * a0) + a1)) (W' := (wM cI cJ ad (x.1, (vp_updL x.2.1 (a2).toNatClampNeg ((x.2.1 (a2).toNatClampNeg) ||| (17179869184 : Int64))), x.2.2.1, ((x.2.2.2.1.1 + (1 : Int32)), (upd x.2.2.2.1.2.1 0 (((64 : Int32) * a0) + a1)), x.2.2.2.1.2.2), x.2.2.2.2.1, x.2.2.2.2.2.1, x.2.2.2.2.2.2.1, x.2.2.2.2.2.2.2.1, x.2.2.2.2.2.2.2.2.1, x.2.2.2.2.2.2.2.2.2.1, x.2.2.2.2.2.2.2.2.2.2.1, x.2.2.2.2.2.2.2.2.2.2.2.1, x.2.2.2.2.2.2.2.2.2.2.2.2.1, x.2.2.2.2.2.2.2.2.2.2.2.2.2.1, x.2.2.2.2.2.2.2.2.2.2.2.2.2.2))) hx hb hK hP hD hS 3 0 rfl rfl (inL (by decide)) (by decide) dX5_lookPage_155 rfl (fun H locs hP hD hS => ?_)
          refine lv_aload_n hx hb dX5_lookPage_156 rfl (lv_at hl 2 rfl) ?_
          refine va_get (D := D) (ci := 5) (v := .ref (ad 6)) hx hb hG inX5 hown hK hP 0 rfl rfl 8 (by decide) (hG _ kw268) (fun _ h9 => h9) rfl dX5_lookPage_157 ?_
          refine lv_iconst (v := 0) hx hb dX5_lookPage_160 (by decide) ?_
          refine lv_lload hx hb dX5_lookPage_161 (lv_at hl 1 rfl) ?_
          refine sl (D := D) (j := 0) (f := x.2.2.2.1.2.2) (x := ((x.2.1 (a2).toNatClampNeg) ||| (17179869184 : Int64))) (W' := (wM cI cJ ad (x.1, (vp_updL x.2.1 (a2).toNatClampNeg ((x.2.1 (a2).toNatClampNeg) ||| (17179869184 : Int64))), x.2.2.1, ((x.2.2.2.1.1 + (1 : Int32)), (upd x.2.2.2.1.2.1 0 (((64 : Int32) * a0) + a1)), (vp_updL x.2.2.2.1.2.2 0 ((x.2.1 (a2).toNatClampNeg) ||| (17179869184 : Int64)))), x.2.2.2.2.1, x.2.2.2.2.2.1, x.2.2.2.2.2.2.1, x.2.2.2.2.2.2.2.1, x.2.2.2.2.2.2.2.2.1, x.2.2.2.2.2.2.2.2.2.1, x.2.2.2.2.2.2.2.2.2.2.1, x.2.2.2.2.2.2.2.2.2.2.2.1, x.2.2.2.2.2.2.2.2.2.2.2.2.1, x.2.2.2.2.2.2.2.2.2.2.2.2.2.1, x.2.2.2.2.2.2.2.2.2.2.2.2.2.2))) hx hb hK hP hD hS 6 1 rfl rfl (inL (by decide)) (by decide) dX5_lookPage_163 rfl (fun H locs hP hD hS => ?_)
          refine lv_lload hx hb dX5_lookPage_164 (lv_at hl 1 rfl) ?_
          exact retl (u := (x.1, (vp_updL x.2.1 (a2).toNatClampNeg ((x.2.1 (a2).toNatClampNeg) ||| (17179869184 : Int64))), x.2.2.1, ((x.2.2.2.1.1 + (1 : Int32)), (upd x.2.2.2.1.2.1 0 (((64 : Int32) * a0) + a1)), (vp_updL x.2.2.2.1.2.2 0 ((x.2.1 (a2).toNatClampNeg) ||| (17179869184 : Int64)))), x.2.2.2.2.1, x.2.2.2.2.2.1, x.2.2.2.2.2.2.1, x.2.2.2.2.2.2.2.1, x.2.2.2.2.2.2.2.2.1, x.2.2.2.2.2.2.2.2.2.1, x.2.2.2.2.2.2.2.2.2.2.1, x.2.2.2.2.2.2.2.2.2.2.2.1, x.2.2.2.2.2.2.2.2.2.2.2.2.1, x.2.2.2.2.2.2.2.2.2.2.2.2.2.1, x.2.2.2.2.2.2.2.2.2.2.2.2.2.2)) hx hb hr hlocks hK hP hD hS dX5_lookPage_166 (by unfold fnX5_lookPage; rw [← q1]; (try dsimp only); rw [if_neg h2]; rw [if_neg h7]; rw [if_neg h8]; rw [if_pos h9]; (try exact rfl))
        by_cases h10 : ((x.2.2.2.1.1 + (1 : Int32)) - (1 : Int32)) = (1 : Int32)
        · have hl : lv_has ls 7 [(4, .int ((1 : Int32))), (5, .long (((x.2.1 (a2).toNatClampNeg) ||| (17179869184 : Int64)))), (0, .ref (ad 0)), (1, .int (a0)), (2, .int (a1)), (3, .int (a2))] := lvc h10 (lv_sub hl [0, 1, 2, 3, 4, 5] rfl)
          refine lv_iload hx hb dX5_lookPage_101 (lv_at hl 0 rfl) ?_
          refine lv_if_le (tgt := 144) hx hb dX5_lookPage_103 (by decide) (fun h9 => absurd h9 (by decide)) (fun _ => ?_)
          refine lv_aload_n hx hb dX5_lookPage_106 rfl (lv_at hl 2 rfl) ?_
          refine va_get (D := D) (ci := 5) (v := .ref (ad 3)) hx hb hG inX5 hown hK hP 0 rfl rfl 5 (by decide) (hG _ kw254) (fun _ h9 => h9) rfl dX5_lookPage_107 ?_
          refine lv_iload hx hb dX5_lookPage_110 (lv_at hl 0 rfl) ?_
          refine lv_aload_n hx hb dX5_lookPage_112 rfl (lv_at hl 2 rfl) ?_
          refine va_get (D := D) (ci := 5) (v := .ref (ad 3)) hx hb hG inX5 hown hK hP 0 rfl rfl 5 (by decide) (hG _ kw254) (fun _ h9 => h9) rfl dX5_lookPage_113 ?_
          refine lv_iload hx hb dX5_lookPage_116 (lv_at hl 0 rfl) ?_
          refine lv_iconst (v := 1) hx hb dX5_lookPage_118 (by decide) ?_
          refine lv_isub hx hb dX5_lookPage_119 ?_
          refine tI (y := 0) (by decide) ?_
          refine gi (D := D) (j := 0) (f := x.2.2.2.1.2.1) hx hb hK hP 3 0 rfl rfl (inL (by decide)) (by decide) dX5_lookPage_120 ?_
          refine si (D := D) (j := 1) (f := x.2.2.2.1.2.1) (x := (x.2.2.2.1.2.1 0)) (W' := (wM cI cJ ad (x.1, (vp_updL x.2.1 (a2).toNatClampNeg ((x.2.1 (a2).toNatClampNeg) ||| (17179869184 : Int64))), x.2.2.1, ((x.2.2.2.1.1 + (1 : Int32)), (upd x.2.2.2.1.2.1 1 (x.2.2.2.1.2.1 0)), x.2.2.2.1.2.2), x.2.2.2.2.1, x.2.2.2.2.2.1, x.2.2.2.2.2.2.1, x.2.2.2.2.2.2.2.1, x.2.2.2.2.2.2.2.2.1, x.2.2.2.2.2.2.2.2.2.1, x.2.2.2.2.2.2.2.2.2.2.1, x.2.2.2.2.2.2.2.2.2.2.2.1, x.2.2.2.2.2.2.2.2.2.2.2.2.1, x.2.2.2.2.2.2.2.2.2.2.2.2.2.1, x.2.2.2.2.2.2.2.2.2.2.2.2.2.2))) hx hb hK hP hD hS 3 0 rfl rfl (inL (by decide)) (by decide) dX5_lookPage_121 rfl (fun H locs hP hD hS => ?_)
          refine lv_aload_n hx hb dX5_lookPage_122 rfl (lv_at hl 2 rfl) ?_
          refine va_get (D := D) (ci := 5) (v := .ref (ad 6)) hx hb hG inX5 hown hK hP 0 rfl rfl 8 (by decide) (hG _ kw268) (fun _ h9 => h9) rfl dX5_lookPage_123 ?_
          refine lv_iload hx hb dX5_lookPage_126 (lv_at hl 0 rfl) ?_
          refine lv_aload_n hx hb dX5_lookPage_128 rfl (lv_at hl 2 rfl) ?_
          refine va_get (D := D) (ci := 5) (v := .ref (ad 6)) hx hb hG inX5 hown hK hP 0 rfl rfl 8 (by decide) (hG _ kw268) (fun _ h9 => h9) rfl dX5_lookPage_129 ?_
          refine lv_iload hx hb dX5_lookPage_132 (lv_at hl 0 rfl) ?_
          refine lv_iconst (v := 1) hx hb dX5_lookPage_134 (by decide) ?_
          refine lv_isub hx hb dX5_lookPage_135 ?_
          refine tI (y := 0) (by decide) ?_
          refine gl (D := D) (j := 0) (f := x.2.2.2.1.2.2) hx hb hK hP 6 1 rfl rfl (inL (by decide)) (by decide) dX5_lookPage_136 ?_
          refine sl (D := D) (j := 1) (f := x.2.2.2.1.2.2) (x := (x.2.2.2.1.2.2 0)) (W' := (wM cI cJ ad (x.1, (vp_updL x.2.1 (a2).toNatClampNeg ((x.2.1 (a2).toNatClampNeg) ||| (17179869184 : Int64))), x.2.2.1, ((x.2.2.2.1.1 + (1 : Int32)), (upd x.2.2.2.1.2.1 1 (x.2.2.2.1.2.1 0)), (vp_updL x.2.2.2.1.2.2 1 (x.2.2.2.1.2.2 0))), x.2.2.2.2.1, x.2.2.2.2.2.1, x.2.2.2.2.2.2.1, x.2.2.2.2.2.2.2.1, x.2.2.2.2.2.2.2.2.1, x.2.2.2.2.2.2.2.2.2.1, x.2.2.2.2.2.2.2.2.2.2.1, x.2.2.2.2.2.2.2.2.2.2.2.1, x.2.2.2.2.2.2.2.2.2.2.2.2.1, x.2.2.2.2.2.2.2.2.2.2.2.2.2.1, x.2.2.2.2.2.2.2.2.2.2.2.2.2.2))) hx hb hK hP hD hS 6 1 rfl rfl (inL (by decide)) (by decide) dX5_lookPage_137 rfl (fun H locs hP hD hS => ?_)
          refine lv_iinc (k := 0) (v := (0 : Int32)) (lv' := [(4, .int ((0 : Int32))), (5, .long (((x.2.1 (a2).toNatClampNeg) ||| (17179869184 : Int64)))), (0, .ref (ad 0)), (1, .int (a0)), (2, .int (a1)), (3, .int (a2))]) hx hb dX5_lookPage_138 hl rfl (by decide) (by decide) rfl (fun ls hl => ?_)
          refine lv_goto (tgt := 101) hx hb dX5_lookPage_141 (by decide) ?_
          refine lv_iload hx hb dX5_lookPage_101 (lv_at hl 0 rfl) ?_
          refine lv_if_le (tgt := 144) hx hb dX5_lookPage_103 (by decide) (fun _ => ?_) (fun h9 => absurd (by decide) h9)
          refine lv_aload_n hx hb dX5_lookPage_144 rfl (lv_at hl 2 rfl) ?_
          refine va_get (D := D) (ci := 5) (v := .ref (ad 3)) hx hb hG inX5 hown hK hP 0 rfl rfl 5 (by decide) (hG _ kw254) (fun _ h9 => h9) rfl dX5_lookPage_145 ?_
          refine lv_iconst (v := 0) hx hb dX5_lookPage_148 (by decide) ?_
          refine lv_bipush (v := 64) hx hb dX5_lookPage_149 (by decide) ?_
          refine lv_iload_n hx hb dX5_lookPage_151 rfl (lv_at hl 3 rfl) ?_
          refine lv_imul hx hb dX5_lookPage_152 ?_
          refine lv_iload_n hx hb dX5_lookPage_153 rfl (lv_at hl 4 rfl) ?_
          refine lv_iadd hx hb dX5_lookPage_154 ?_
          refine si (D := D) (j := 0) (f := (upd x.2.2.2.1.2.1 1 (x.2.2.2.1.2.1 0))) (x := (((64 : Int32) * a0) + a1)) (W' := (wM cI cJ ad (x.1, (vp_updL x.2.1 (a2).toNatClampNeg ((x.2.1 (a2).toNatClampNeg) ||| (17179869184 : Int64))), x.2.2.1, ((x.2.2.2.1.1 + (1 : Int32)), (upd (upd x.2.2.2.1.2.1 1 (x.2.2.2.1.2.1 0)) 0 (((64 : Int32) * a0) + a1)), (vp_updL x.2.2.2.1.2.2 1 (x.2.2.2.1.2.2 0))), x.2.2.2.2.1, x.2.2.2.2.2.1, x.2.2.2.2.2.2.1, x.2.2.2.2.2.2.2.1, x.2.2.2.2.2.2.2.2.1, x.2.2.2.2.2.2.2.2.2.1, x.2.2.2.2.2.2.2.2.2.2.1, x.2.2.2.2.2.2.2.2.2.2.2.1, x.2.2.2.2.2.2.2.2.2.2.2.2.1, x.2.2.2.2.2.2.2.2.2.2.2.2.2.1, x.2.2.2.2.2.2.2.2.2.2.2.2.2.2))) hx hb hK hP hD hS 3 0 rfl rfl (inL (by decide)) (by decide) dX5_lookPage_155 rfl (fun H locs hP hD hS => ?_)
          refine lv_aload_n hx hb dX5_lookPage_156 rfl (lv_at hl 2 rfl) ?_
          refine va_get (D := D) (ci := 5) (v := .ref (ad 6)) hx hb hG inX5 hown hK hP 0 rfl rfl 8 (by decide) (hG _ kw268) (fun _ h9 => h9) rfl dX5_lookPage_157 ?_
          refine lv_iconst (v := 0) hx hb dX5_lookPage_160 (by decide) ?_
          refine lv_lload hx hb dX5_lookPage_161 (lv_at hl 1 rfl) ?_
          refine sl (D := D) (j := 0) (f := (vp_updL x.2.2.2.1.2.2 1 (x.2.2.2.1.2.2 0))) (x := ((x.2.1 (a2).toNatClampNeg) ||| (17179869184 : Int64))) (W' := (wM cI cJ ad (x.1, (vp_updL x.2.1 (a2).toNatClampNeg ((x.2.1 (a2).toNatClampNeg) ||| (17179869184 : Int64))), x.2.2.1, ((x.2.2.2.1.1 + (1 : Int32)), (upd (upd x.2.2.2.1.2.1 1 (x.2.2.2.1.2.1 0)) 0 (((64 : Int32) * a0) + a1)), (vp_updL (vp_updL x.2.2.2.1.2.2 1 (x.2.2.2.1.2.2 0)) 0 ((x.2.1 (a2).toNatClampNeg) ||| (17179869184 : Int64)))), x.2.2.2.2.1, x.2.2.2.2.2.1, x.2.2.2.2.2.2.1, x.2.2.2.2.2.2.2.1, x.2.2.2.2.2.2.2.2.1, x.2.2.2.2.2.2.2.2.2.1, x.2.2.2.2.2.2.2.2.2.2.1, x.2.2.2.2.2.2.2.2.2.2.2.1, x.2.2.2.2.2.2.2.2.2.2.2.2.1, x.2.2.2.2.2.2.2.2.2.2.2.2.2.1, x.2.2.2.2.2.2.2.2.2.2.2.2.2.2))) hx hb hK hP hD hS 6 1 rfl rfl (inL (by decide)) (by decide) dX5_lookPage_163 rfl (fun H locs hP hD hS => ?_)
          refine lv_lload hx hb dX5_lookPage_164 (lv_at hl 1 rfl) ?_
          exact retl (u := (x.1, (vp_updL x.2.1 (a2).toNatClampNeg ((x.2.1 (a2).toNatClampNeg) ||| (17179869184 : Int64))), x.2.2.1, ((x.2.2.2.1.1 + (1 : Int32)), (upd (upd x.2.2.2.1.2.1 1 (x.2.2.2.1.2.1 0)) 0 (((64 : Int32) * a0) + a1)), (vp_updL (vp_updL x.2.2.2.1.2.2 1 (x.2.2.2.1.2.2 0)) 0 ((x.2.1 (a2).toNatClampNeg) ||| (17179869184 : Int64)))), x.2.2.2.2.1, x.2.2.2.2.2.1, x.2.2.2.2.2.2.1, x.2.2.2.2.2.2.2.1, x.2.2.2.2.2.2.2.2.1, x.2.2.2.2.2.2.2.2.2.1, x.2.2.2.2.2.2.2.2.2.2.1, x.2.2.2.2.2.2.2.2.2.2.2.1, x.2.2.2.2.2.2.2.2.2.2.2.2.1, x.2.2.2.2.2.2.2.2.2.2.2.2.2.1, x.2.2.2.2.2.2.2.2.2.2.2.2.2.2)) hx hb hr hlocks hK hP hD hS dX5_lookPage_166 (by unfold fnX5_lookPage; rw [← q1]; (try dsimp only); rw [if_neg h2]; rw [if_neg h7]; rw [if_neg h8]; rw [if_neg h9]; rw [if_pos h10]; (try exact rfl))
        by_cases h11 : ((x.2.2.2.1.1 + (1 : Int32)) - (1 : Int32)) = (2 : Int32)
        · have hl : lv_has ls 7 [(4, .int ((2 : Int32))), (5, .long (((x.2.1 (a2).toNatClampNeg) ||| (17179869184 : Int64)))), (0, .ref (ad 0)), (1, .int (a0)), (2, .int (a1)), (3, .int (a2))] := lvc h11 (lv_sub hl [0, 1, 2, 3, 4, 5] rfl)
          refine lv_iload hx hb dX5_lookPage_101 (lv_at hl 0 rfl) ?_
          refine lv_if_le (tgt := 144) hx hb dX5_lookPage_103 (by decide) (fun h9 => absurd h9 (by decide)) (fun _ => ?_)
          refine lv_aload_n hx hb dX5_lookPage_106 rfl (lv_at hl 2 rfl) ?_
          refine va_get (D := D) (ci := 5) (v := .ref (ad 3)) hx hb hG inX5 hown hK hP 0 rfl rfl 5 (by decide) (hG _ kw254) (fun _ h9 => h9) rfl dX5_lookPage_107 ?_
          refine lv_iload hx hb dX5_lookPage_110 (lv_at hl 0 rfl) ?_
          refine lv_aload_n hx hb dX5_lookPage_112 rfl (lv_at hl 2 rfl) ?_
          refine va_get (D := D) (ci := 5) (v := .ref (ad 3)) hx hb hG inX5 hown hK hP 0 rfl rfl 5 (by decide) (hG _ kw254) (fun _ h9 => h9) rfl dX5_lookPage_113 ?_
          refine lv_iload hx hb dX5_lookPage_116 (lv_at hl 0 rfl) ?_
          refine lv_iconst (v := 1) hx hb dX5_lookPage_118 (by decide) ?_
          refine lv_isub hx hb dX5_lookPage_119 ?_
          refine tI (y := 1) (by decide) ?_
          refine gi (D := D) (j := 1) (f := x.2.2.2.1.2.1) hx hb hK hP 3 0 rfl rfl (inL (by decide)) (by decide) dX5_lookPage_120 ?_
          refine si (D := D) (j := 2) (f := x.2.2.2.1.2.1) (x := (x.2.2.2.1.2.1 1)) (W' := (wM cI cJ ad (x.1, (vp_updL x.2.1 (a2).toNatClampNeg ((x.2.1 (a2).toNatClampNeg) ||| (17179869184 : Int64))), x.2.2.1, ((x.2.2.2.1.1 + (1 : Int32)), (upd x.2.2.2.1.2.1 2 (x.2.2.2.1.2.1 1)), x.2.2.2.1.2.2), x.2.2.2.2.1, x.2.2.2.2.2.1, x.2.2.2.2.2.2.1, x.2.2.2.2.2.2.2.1, x.2.2.2.2.2.2.2.2.1, x.2.2.2.2.2.2.2.2.2.1, x.2.2.2.2.2.2.2.2.2.2.1, x.2.2.2.2.2.2.2.2.2.2.2.1, x.2.2.2.2.2.2.2.2.2.2.2.2.1, x.2.2.2.2.2.2.2.2.2.2.2.2.2.1, x.2.2.2.2.2.2.2.2.2.2.2.2.2.2))) hx hb hK hP hD hS 3 0 rfl rfl (inL (by decide)) (by decide) dX5_lookPage_121 rfl (fun H locs hP hD hS => ?_)
          refine lv_aload_n hx hb dX5_lookPage_122 rfl (lv_at hl 2 rfl) ?_
          refine va_get (D := D) (ci := 5) (v := .ref (ad 6)) hx hb hG inX5 hown hK hP 0 rfl rfl 8 (by decide) (hG _ kw268) (fun _ h9 => h9) rfl dX5_lookPage_123 ?_
          refine lv_iload hx hb dX5_lookPage_126 (lv_at hl 0 rfl) ?_
          refine lv_aload_n hx hb dX5_lookPage_128 rfl (lv_at hl 2 rfl) ?_
          refine va_get (D := D) (ci := 5) (v := .ref (ad 6)) hx hb hG inX5 hown hK hP 0 rfl rfl 8 (by decide) (hG _ kw268) (fun _ h9 => h9) rfl dX5_lookPage_129 ?_
          refine lv_iload hx hb dX5_lookPage_132 (lv_at hl 0 rfl) ?_
          refine lv_iconst (v := 1) hx hb dX5_lookPage_134 (by decide) ?_
          refine lv_isub hx hb dX5_lookPage_135 ?_
          refine tI (y := 1) (by decide) ?_
          refine gl (D := D) (j := 1) (f := x.2.2.2.1.2.2) hx hb hK hP 6 1 rfl rfl (inL (by decide)) (by decide) dX5_lookPage_136 ?_
          refine sl (D := D) (j := 2) (f := x.2.2.2.1.2.2) (x := (x.2.2.2.1.2.2 1)) (W' := (wM cI cJ ad (x.1, (vp_updL x.2.1 (a2).toNatClampNeg ((x.2.1 (a2).toNatClampNeg) ||| (17179869184 : Int64))), x.2.2.1, ((x.2.2.2.1.1 + (1 : Int32)), (upd x.2.2.2.1.2.1 2 (x.2.2.2.1.2.1 1)), (vp_updL x.2.2.2.1.2.2 2 (x.2.2.2.1.2.2 1))), x.2.2.2.2.1, x.2.2.2.2.2.1, x.2.2.2.2.2.2.1, x.2.2.2.2.2.2.2.1, x.2.2.2.2.2.2.2.2.1, x.2.2.2.2.2.2.2.2.2.1, x.2.2.2.2.2.2.2.2.2.2.1, x.2.2.2.2.2.2.2.2.2.2.2.1, x.2.2.2.2.2.2.2.2.2.2.2.2.1, x.2.2.2.2.2.2.2.2.2.2.2.2.2.1, x.2.2.2.2.2.2.2.2.2.2.2.2.2.2))) hx hb hK hP hD hS 6 1 rfl rfl (inL (by decide)) (by decide) dX5_lookPage_137 rfl (fun H locs hP hD hS => ?_)
          refine lv_iinc (k := 0) (v := (1 : Int32)) (lv' := [(4, .int ((1 : Int32))), (5, .long (((x.2.1 (a2).toNatClampNeg) ||| (17179869184 : Int64)))), (0, .ref (ad 0)), (1, .int (a0)), (2, .int (a1)), (3, .int (a2))]) hx hb dX5_lookPage_138 hl rfl (by decide) (by decide) rfl (fun ls hl => ?_)
          refine lv_goto (tgt := 101) hx hb dX5_lookPage_141 (by decide) ?_
          refine lv_iload hx hb dX5_lookPage_101 (lv_at hl 0 rfl) ?_
          refine lv_if_le (tgt := 144) hx hb dX5_lookPage_103 (by decide) (fun h9 => absurd h9 (by decide)) (fun _ => ?_)
          refine lv_aload_n hx hb dX5_lookPage_106 rfl (lv_at hl 2 rfl) ?_
          refine va_get (D := D) (ci := 5) (v := .ref (ad 3)) hx hb hG inX5 hown hK hP 0 rfl rfl 5 (by decide) (hG _ kw254) (fun _ h9 => h9) rfl dX5_lookPage_107 ?_
          refine lv_iload hx hb dX5_lookPage_110 (lv_at hl 0 rfl) ?_
          refine lv_aload_n hx hb dX5_lookPage_112 rfl (lv_at hl 2 rfl) ?_
          refine va_get (D := D) (ci := 5) (v := .ref (ad 3)) hx hb hG inX5 hown hK hP 0 rfl rfl 5 (by decide) (hG _ kw254) (fun _ h9 => h9) rfl dX5_lookPage_113 ?_
          refine lv_iload hx hb dX5_lookPage_116 (lv_at hl 0 rfl) ?_
          refine lv_iconst (v := 1) hx hb dX5_lookPage_118 (by decide) ?_
          refine lv_isub hx hb dX5_lookPage_119 ?_
          refine tI (y := 0) (by decide) ?_
          refine gi (D := D) (j := 0) (f := (upd x.2.2.2.1.2.1 2 (x.2.2.2.1.2.1 1))) hx hb hK hP 3 0 rfl rfl (inL (by decide)) (by decide) dX5_lookPage_120 ?_
          refine si (D := D) (j := 1) (f := (upd x.2.2.2.1.2.1 2 (x.2.2.2.1.2.1 1))) (x := ((upd x.2.2.2.1.2.1 2 (x.2.2.2.1.2.1 1)) 0)) (W' := (wM cI cJ ad (x.1, (vp_updL x.2.1 (a2).toNatClampNeg ((x.2.1 (a2).toNatClampNeg) ||| (17179869184 : Int64))), x.2.2.1, ((x.2.2.2.1.1 + (1 : Int32)), (upd (upd x.2.2.2.1.2.1 2 (x.2.2.2.1.2.1 1)) 1 ((upd x.2.2.2.1.2.1 2 (x.2.2.2.1.2.1 1)) 0)), (vp_updL x.2.2.2.1.2.2 2 (x.2.2.2.1.2.2 1))), x.2.2.2.2.1, x.2.2.2.2.2.1, x.2.2.2.2.2.2.1, x.2.2.2.2.2.2.2.1, x.2.2.2.2.2.2.2.2.1, x.2.2.2.2.2.2.2.2.2.1, x.2.2.2.2.2.2.2.2.2.2.1, x.2.2.2.2.2.2.2.2.2.2.2.1, x.2.2.2.2.2.2.2.2.2.2.2.2.1, x.2.2.2.2.2.2.2.2.2.2.2.2.2.1, x.2.2.2.2.2.2.2.2.2.2.2.2.2.2))) hx hb hK hP hD hS 3 0 rfl rfl (inL (by decide)) (by decide) dX5_lookPage_121 rfl (fun H locs hP hD hS => ?_)
          refine lv_aload_n hx hb dX5_lookPage_122 rfl (lv_at hl 2 rfl) ?_
          refine va_get (D := D) (ci := 5) (v := .ref (ad 6)) hx hb hG inX5 hown hK hP 0 rfl rfl 8 (by decide) (hG _ kw268) (fun _ h9 => h9) rfl dX5_lookPage_123 ?_
          refine lv_iload hx hb dX5_lookPage_126 (lv_at hl 0 rfl) ?_
          refine lv_aload_n hx hb dX5_lookPage_128 rfl (lv_at hl 2 rfl) ?_
          refine va_get (D := D) (ci := 5) (v := .ref (ad 6)) hx hb hG inX5 hown hK hP 0 rfl rfl 8 (by decide) (hG _ kw268) (fun _ h9 => h9) rfl dX5_lookPage_129 ?_
          refine lv_iload hx hb dX5_lookPage_132 (lv_at hl 0 rfl) ?_
          refine lv_iconst (v := 1) hx hb dX5_lookPage_134 (by decide) ?_
          refine lv_isub hx hb dX5_lookPage_135 ?_
          refine tI (y := 0) (by decide) ?_
          refine gl (D := D) (j := 0) (f := (vp_updL x.2.2.2.1.2.2 2 (x.2.2.2.1.2.2 1))) hx hb hK hP 6 1 rfl rfl (inL (by decide)) (by decide) dX5_lookPage_136 ?_
          refine sl (D := D) (j := 1) (f := (vp_updL x.2.2.2.1.2.2 2 (x.2.2.2.1.2.2 1))) (x := ((vp_updL x.2.2.2.1.2.2 2 (x.2.2.2.1.2.2 1)) 0)) (W' := (wM cI cJ ad (x.1, (vp_updL x.2.1 (a2).toNatClampNeg ((x.2.1 (a2).toNatClampNeg) ||| (17179869184 : Int64))), x.2.2.1, ((x.2.2.2.1.1 + (1 : Int32)), (upd (upd x.2.2.2.1.2.1 2 (x.2.2.2.1.2.1 1)) 1 ((upd x.2.2.2.1.2.1 2 (x.2.2.2.1.2.1 1)) 0)), (vp_updL (vp_updL x.2.2.2.1.2.2 2 (x.2.2.2.1.2.2 1)) 1 ((vp_updL x.2.2.2.1.2.2 2 (x.2.2.2.1.2.2 1)) 0))), x.2.2.2.2.1, x.2.2.2.2.2.1, x.2.2.2.2.2.2.1, x.2.2.2.2.2.2.2.1, x.2.2.2.2.2.2.2.2.1, x.2.2.2.2.2.2.2.2.2.1, x.2.2.2.2.2.2.2.2.2.2.1, x.2.2.2.2.2.2.2.2.2.2.2.1, x.2.2.2.2.2.2.2.2.2.2.2.2.1, x.2.2.2.2.2.2.2.2.2.2.2.2.2.1, x.2.2.2.2.2.2.2.2.2.2.2.2.2.2))) hx hb hK hP hD hS 6 1 rfl rfl (inL (by decide)) (by decide) dX5_lookPage_137 rfl (fun H locs hP hD hS => ?_)
          refine lv_iinc (k := 0) (v := (0 : Int32)) (lv' := [(4, .int ((0 : Int32))), (5, .long (((x.2.1 (a2).toNatClampNeg) ||| (17179869184 : Int64)))), (0, .ref (ad 0)), (1, .int (a0)), (2, .int (a1)), (3, .int (a2))]) hx hb dX5_lookPage_138 hl rfl (by decide) (by decide) rfl (fun ls hl => ?_)
          refine lv_goto (tgt := 101) hx hb dX5_lookPage_141 (by decide) ?_
          refine lv_iload hx hb dX5_lookPage_101 (lv_at hl 0 rfl) ?_
          refine lv_if_le (tgt := 144) hx hb dX5_lookPage_103 (by decide) (fun _ => ?_) (fun h9 => absurd (by decide) h9)
          refine lv_aload_n hx hb dX5_lookPage_144 rfl (lv_at hl 2 rfl) ?_
          refine va_get (D := D) (ci := 5) (v := .ref (ad 3)) hx hb hG inX5 hown hK hP 0 rfl rfl 5 (by decide) (hG _ kw254) (fun _ h9 => h9) rfl dX5_lookPage_145 ?_
          refine lv_iconst (v := 0) hx hb dX5_lookPage_148 (by decide) ?_
          refine lv_bipush (v := 64) hx hb dX5_lookPage_149 (by decide) ?_
          refine lv_iload_n hx hb dX5_lookPage_151 rfl (lv_at hl 3 rfl) ?_
          refine lv_imul hx hb dX5_lookPage_152 ?_
          refine lv_iload_n hx hb dX5_lookPage_153 rfl (lv_at hl 4 rfl) ?_
          refine lv_iadd hx hb dX5_lookPage_154 ?_
          refine si (D := D) (j := 0) (f := (upd (upd x.2.2.2.1.2.1 2 (x.2.2.2.1.2.1 1)) 1 ((upd x.2.2.2.1.2.1 2 (x.2.2.2.1.2.1 1)) 0))) (x := (((64 : Int32) * a0) + a1)) (W' := (wM cI cJ ad (x.1, (vp_updL x.2.1 (a2).toNatClampNeg ((x.2.1 (a2).toNatClampNeg) ||| (17179869184 : Int64))), x.2.2.1, ((x.2.2.2.1.1 + (1 : Int32)), (upd (upd (upd x.2.2.2.1.2.1 2 (x.2.2.2.1.2.1 1)) 1 ((upd x.2.2.2.1.2.1 2 (x.2.2.2.1.2.1 1)) 0)) 0 (((64 : Int32) * a0) + a1)), (vp_updL (vp_updL x.2.2.2.1.2.2 2 (x.2.2.2.1.2.2 1)) 1 ((vp_updL x.2.2.2.1.2.2 2 (x.2.2.2.1.2.2 1)) 0))), x.2.2.2.2.1, x.2.2.2.2.2.1, x.2.2.2.2.2.2.1, x.2.2.2.2.2.2.2.1, x.2.2.2.2.2.2.2.2.1, x.2.2.2.2.2.2.2.2.2.1, x.2.2.2.2.2.2.2.2.2.2.1, x.2.2.2.2.2.2.2.2.2.2.2.1, x.2.2.2.2.2.2.2.2.2.2.2.2.1, x.2.2.2.2.2.2.2.2.2.2.2.2.2.1, x.2.2.2.2.2.2.2.2.2.2.2.2.2.2))) hx hb hK hP hD hS 3 0 rfl rfl (inL (by decide)) (by decide) dX5_lookPage_155 rfl (fun H locs hP hD hS => ?_)
          refine lv_aload_n hx hb dX5_lookPage_156 rfl (lv_at hl 2 rfl) ?_
          refine va_get (D := D) (ci := 5) (v := .ref (ad 6)) hx hb hG inX5 hown hK hP 0 rfl rfl 8 (by decide) (hG _ kw268) (fun _ h9 => h9) rfl dX5_lookPage_157 ?_
          refine lv_iconst (v := 0) hx hb dX5_lookPage_160 (by decide) ?_
          refine lv_lload hx hb dX5_lookPage_161 (lv_at hl 1 rfl) ?_
          refine sl (D := D) (j := 0) (f := (vp_updL (vp_updL x.2.2.2.1.2.2 2 (x.2.2.2.1.2.2 1)) 1 ((vp_updL x.2.2.2.1.2.2 2 (x.2.2.2.1.2.2 1)) 0))) (x := ((x.2.1 (a2).toNatClampNeg) ||| (17179869184 : Int64))) (W' := (wM cI cJ ad (x.1, (vp_updL x.2.1 (a2).toNatClampNeg ((x.2.1 (a2).toNatClampNeg) ||| (17179869184 : Int64))), x.2.2.1, ((x.2.2.2.1.1 + (1 : Int32)), (upd (upd (upd x.2.2.2.1.2.1 2 (x.2.2.2.1.2.1 1)) 1 ((upd x.2.2.2.1.2.1 2 (x.2.2.2.1.2.1 1)) 0)) 0 (((64 : Int32) * a0) + a1)), (vp_updL (vp_updL (vp_updL x.2.2.2.1.2.2 2 (x.2.2.2.1.2.2 1)) 1 ((vp_updL x.2.2.2.1.2.2 2 (x.2.2.2.1.2.2 1)) 0)) 0 ((x.2.1 (a2).toNatClampNeg) ||| (17179869184 : Int64)))), x.2.2.2.2.1, x.2.2.2.2.2.1, x.2.2.2.2.2.2.1, x.2.2.2.2.2.2.2.1, x.2.2.2.2.2.2.2.2.1, x.2.2.2.2.2.2.2.2.2.1, x.2.2.2.2.2.2.2.2.2.2.1, x.2.2.2.2.2.2.2.2.2.2.2.1, x.2.2.2.2.2.2.2.2.2.2.2.2.1, x.2.2.2.2.2.2.2.2.2.2.2.2.2.1, x.2.2.2.2.2.2.2.2.2.2.2.2.2.2))) hx hb hK hP hD hS 6 1 rfl rfl (inL (by decide)) (by decide) dX5_lookPage_163 rfl (fun H locs hP hD hS => ?_)
          refine lv_lload hx hb dX5_lookPage_164 (lv_at hl 1 rfl) ?_
          exact retl (u := (x.1, (vp_updL x.2.1 (a2).toNatClampNeg ((x.2.1 (a2).toNatClampNeg) ||| (17179869184 : Int64))), x.2.2.1, ((x.2.2.2.1.1 + (1 : Int32)), (upd (upd (upd x.2.2.2.1.2.1 2 (x.2.2.2.1.2.1 1)) 1 ((upd x.2.2.2.1.2.1 2 (x.2.2.2.1.2.1 1)) 0)) 0 (((64 : Int32) * a0) + a1)), (vp_updL (vp_updL (vp_updL x.2.2.2.1.2.2 2 (x.2.2.2.1.2.2 1)) 1 ((vp_updL x.2.2.2.1.2.2 2 (x.2.2.2.1.2.2 1)) 0)) 0 ((x.2.1 (a2).toNatClampNeg) ||| (17179869184 : Int64)))), x.2.2.2.2.1, x.2.2.2.2.2.1, x.2.2.2.2.2.2.1, x.2.2.2.2.2.2.2.1, x.2.2.2.2.2.2.2.2.1, x.2.2.2.2.2.2.2.2.2.1, x.2.2.2.2.2.2.2.2.2.2.1, x.2.2.2.2.2.2.2.2.2.2.2.1, x.2.2.2.2.2.2.2.2.2.2.2.2.1, x.2.2.2.2.2.2.2.2.2.2.2.2.2.1, x.2.2.2.2.2.2.2.2.2.2.2.2.2.2)) hx hb hr hlocks hK hP hD hS dX5_lookPage_166 (by unfold fnX5_lookPage; rw [← q1]; (try dsimp only); rw [if_neg h2]; rw [if_neg h7]; rw [if_neg h8]; rw [if_neg h9]; rw [if_neg h10]; rw [if_pos h11]; (try exact rfl))
        have h12 : ((x.2.2.2.1.1 + (1 : Int32)) - (1 : Int32)) = (3 : Int32) := c4l (addA hI.2.1 h8) h9 h10 h11
        have hl : lv_has ls 7 [(4, .int ((3 : Int32))), (5, .long (((x.2.1 (a2).toNatClampNeg) ||| (17179869184 : Int64)))), (0, .ref (ad 0)), (1, .int (a0)), (2, .int (a1)), (3, .int (a2))] := lvc h12 (lv_sub hl [0, 1, 2, 3, 4, 5] rfl)
        refine lv_iload hx hb dX5_lookPage_101 (lv_at hl 0 rfl) ?_
        refine lv_if_le (tgt := 144) hx hb dX5_lookPage_103 (by decide) (fun h9 => absurd h9 (by decide)) (fun _ => ?_)
        refine lv_aload_n hx hb dX5_lookPage_106 rfl (lv_at hl 2 rfl) ?_
        refine va_get (D := D) (ci := 5) (v := .ref (ad 3)) hx hb hG inX5 hown hK hP 0 rfl rfl 5 (by decide) (hG _ kw254) (fun _ h9 => h9) rfl dX5_lookPage_107 ?_
        refine lv_iload hx hb dX5_lookPage_110 (lv_at hl 0 rfl) ?_
        refine lv_aload_n hx hb dX5_lookPage_112 rfl (lv_at hl 2 rfl) ?_
        refine va_get (D := D) (ci := 5) (v := .ref (ad 3)) hx hb hG inX5 hown hK hP 0 rfl rfl 5 (by decide) (hG _ kw254) (fun _ h9 => h9) rfl dX5_lookPage_113 ?_
        refine lv_iload hx hb dX5_lookPage_116 (lv_at hl 0 rfl) ?_
        refine lv_iconst (v := 1) hx hb dX5_lookPage_118 (by decide) ?_
        refine lv_isub hx hb dX5_lookPage_119 ?_
        refine tI (y := 2) (by decide) ?_
        refine gi (D := D) (j := 2) (f := x.2.2.2.1.2.1) hx hb hK hP 3 0 rfl rfl (inL (by decide)) (by decide) dX5_lookPage_120 ?_
        refine si (D := D) (j := 3) (f := x.2.2.2.1.2.1) (x := (x.2.2.2.1.2.1 2)) (W' := (wM cI cJ ad (x.1, (vp_updL x.2.1 (a2).toNatClampNeg ((x.2.1 (a2).toNatClampNeg) ||| (17179869184 : Int64))), x.2.2.1, ((x.2.2.2.1.1 + (1 : Int32)), (upd x.2.2.2.1.2.1 3 (x.2.2.2.1.2.1 2)), x.2.2.2.1.2.2), x.2.2.2.2.1, x.2.2.2.2.2.1, x.2.2.2.2.2.2.1, x.2.2.2.2.2.2.2.1, x.2.2.2.2.2.2.2.2.1, x.2.2.2.2.2.2.2.2.2.1, x.2.2.2.2.2.2.2.2.2.2.1, x.2.2.2.2.2.2.2.2.2.2.2.1, x.2.2.2.2.2.2.2.2.2.2.2.2.1, x.2.2.2.2.2.2.2.2.2.2.2.2.2.1, x.2.2.2.2.2.2.2.2.2.2.2.2.2.2))) hx hb hK hP hD hS 3 0 rfl rfl (inL (by decide)) (by decide) dX5_lookPage_121 rfl (fun H locs hP hD hS => ?_)
        refine lv_aload_n hx hb dX5_lookPage_122 rfl (lv_at hl 2 rfl) ?_
        refine va_get (D := D) (ci := 5) (v := .ref (ad 6)) hx hb hG inX5 hown hK hP 0 rfl rfl 8 (by decide) (hG _ kw268) (fun _ h9 => h9) rfl dX5_lookPage_123 ?_
        refine lv_iload hx hb dX5_lookPage_126 (lv_at hl 0 rfl) ?_
        refine lv_aload_n hx hb dX5_lookPage_128 rfl (lv_at hl 2 rfl) ?_
        refine va_get (D := D) (ci := 5) (v := .ref (ad 6)) hx hb hG inX5 hown hK hP 0 rfl rfl 8 (by decide) (hG _ kw268) (fun _ h9 => h9) rfl dX5_lookPage_129 ?_
        refine lv_iload hx hb dX5_lookPage_132 (lv_at hl 0 rfl) ?_
        refine lv_iconst (v := 1) hx hb dX5_lookPage_134 (by decide) ?_
        refine lv_isub hx hb dX5_lookPage_135 ?_
        refine tI (y := 2) (by decide) ?_
        refine gl (D := D) (j := 2) (f := x.2.2.2.1.2.2) hx hb hK hP 6 1 rfl rfl (inL (by decide)) (by decide) dX5_lookPage_136 ?_
        refine sl (D := D) (j := 3) (f := x.2.2.2.1.2.2) (x := (x.2.2.2.1.2.2 2)) (W' := (wM cI cJ ad (x.1, (vp_updL x.2.1 (a2).toNatClampNeg ((x.2.1 (a2).toNatClampNeg) ||| (17179869184 : Int64))), x.2.2.1, ((x.2.2.2.1.1 + (1 : Int32)), (upd x.2.2.2.1.2.1 3 (x.2.2.2.1.2.1 2)), (vp_updL x.2.2.2.1.2.2 3 (x.2.2.2.1.2.2 2))), x.2.2.2.2.1, x.2.2.2.2.2.1, x.2.2.2.2.2.2.1, x.2.2.2.2.2.2.2.1, x.2.2.2.2.2.2.2.2.1, x.2.2.2.2.2.2.2.2.2.1, x.2.2.2.2.2.2.2.2.2.2.1, x.2.2.2.2.2.2.2.2.2.2.2.1, x.2.2.2.2.2.2.2.2.2.2.2.2.1, x.2.2.2.2.2.2.2.2.2.2.2.2.2.1, x.2.2.2.2.2.2.2.2.2.2.2.2.2.2))) hx hb hK hP hD hS 6 1 rfl rfl (inL (by decide)) (by decide) dX5_lookPage_137 rfl (fun H locs hP hD hS => ?_)
        refine lv_iinc (k := 0) (v := (2 : Int32)) (lv' := [(4, .int ((2 : Int32))), (5, .long (((x.2.1 (a2).toNatClampNeg) ||| (17179869184 : Int64)))), (0, .ref (ad 0)), (1, .int (a0)), (2, .int (a1)), (3, .int (a2))]) hx hb dX5_lookPage_138 hl rfl (by decide) (by decide) rfl (fun ls hl => ?_)
        refine lv_goto (tgt := 101) hx hb dX5_lookPage_141 (by decide) ?_
        refine lv_iload hx hb dX5_lookPage_101 (lv_at hl 0 rfl) ?_
        refine lv_if_le (tgt := 144) hx hb dX5_lookPage_103 (by decide) (fun h9 => absurd h9 (by decide)) (fun _ => ?_)
        refine lv_aload_n hx hb dX5_lookPage_106 rfl (lv_at hl 2 rfl) ?_
        refine va_get (D := D) (ci := 5) (v := .ref (ad 3)) hx hb hG inX5 hown hK hP 0 rfl rfl 5 (by decide) (hG _ kw254) (fun _ h9 => h9) rfl dX5_lookPage_107 ?_
        refine lv_iload hx hb dX5_lookPage_110 (lv_at hl 0 rfl) ?_
        refine lv_aload_n hx hb dX5_lookPage_112 rfl (lv_at hl 2 rfl) ?_
        refine va_get (D := D) (ci := 5) (v := .ref (ad 3)) hx hb hG inX5 hown hK hP 0 rfl rfl 5 (by decide) (hG _ kw254) (fun _ h9 => h9) rfl dX5_lookPage_113 ?_
        refine lv_iload hx hb dX5_lookPage_116 (lv_at hl 0 rfl) ?_
        refine lv_iconst (v := 1) hx hb dX5_lookPage_118 (by decide) ?_
        refine lv_isub hx hb dX5_lookPage_119 ?_
        refine tI (y := 1) (by decide) ?_
        refine gi (D := D) (j := 1) (f := (upd x.2.2.2.1.2.1 3 (x.2.2.2.1.2.1 2))) hx hb hK hP 3 0 rfl rfl (inL (by decide)) (by decide) dX5_lookPage_120 ?_
        refine si (D := D) (j := 2) (f := (upd x.2.2.2.1.2.1 3 (x.2.2.2.1.2.1 2))) (x := ((upd x.2.2.2.1.2.1 3 (x.2.2.2.1.2.1 2)) 1)) (W' := (wM cI cJ ad (x.1, (vp_updL x.2.1 (a2).toNatClampNeg ((x.2.1 (a2).toNatClampNeg) ||| (17179869184 : Int64))), x.2.2.1, ((x.2.2.2.1.1 + (1 : Int32)), (upd (upd x.2.2.2.1.2.1 3 (x.2.2.2.1.2.1 2)) 2 ((upd x.2.2.2.1.2.1 3 (x.2.2.2.1.2.1 2)) 1)), (vp_updL x.2.2.2.1.2.2 3 (x.2.2.2.1.2.2 2))), x.2.2.2.2.1, x.2.2.2.2.2.1, x.2.2.2.2.2.2.1, x.2.2.2.2.2.2.2.1, x.2.2.2.2.2.2.2.2.1, x.2.2.2.2.2.2.2.2.2.1, x.2.2.2.2.2.2.2.2.2.2.1, x.2.2.2.2.2.2.2.2.2.2.2.1, x.2.2.2.2.2.2.2.2.2.2.2.2.1, x.2.2.2.2.2.2.2.2.2.2.2.2.2.1, x.2.2.2.2.2.2.2.2.2.2.2.2.2.2))) hx hb hK hP hD hS 3 0 rfl rfl (inL (by decide)) (by decide) dX5_lookPage_121 rfl (fun H locs hP hD hS => ?_)
        refine lv_aload_n hx hb dX5_lookPage_122 rfl (lv_at hl 2 rfl) ?_
        refine va_get (D := D) (ci := 5) (v := .ref (ad 6)) hx hb hG inX5 hown hK hP 0 rfl rfl 8 (by decide) (hG _ kw268) (fun _ h9 => h9) rfl dX5_lookPage_123 ?_
        refine lv_iload hx hb dX5_lookPage_126 (lv_at hl 0 rfl) ?_
        refine lv_aload_n hx hb dX5_lookPage_128 rfl (lv_at hl 2 rfl) ?_
        refine va_get (D := D) (ci := 5) (v := .ref (ad 6)) hx hb hG inX5 hown hK hP 0 rfl rfl 8 (by decide) (hG _ kw268) (fun _ h9 => h9) rfl dX5_lookPage_129 ?_
        refine lv_iload hx hb dX5_lookPage_132 (lv_at hl 0 rfl) ?_
        refine lv_iconst (v := 1) hx hb dX5_lookPage_134 (by decide) ?_
        refine lv_isub hx hb dX5_lookPage_135 ?_
        refine tI (y := 1) (by decide) ?_
        refine gl (D := D) (j := 1) (f := (vp_updL x.2.2.2.1.2.2 3 (x.2.2.2.1.2.2 2))) hx hb hK hP 6 1 rfl rfl (inL (by decide)) (by decide) dX5_lookPage_136 ?_
        refine sl (D := D) (j := 2) (f := (vp_updL x.2.2.2.1.2.2 3 (x.2.2.2.1.2.2 2))) (x := ((vp_updL x.2.2.2.1.2.2 3 (x.2.2.2.1.2.2 2)) 1)) (W' := (wM cI cJ ad (x.1, (vp_updL x.2.1 (a2).toNatClampNeg ((x.2.1 (a2).toNatClampNeg) ||| (17179869184 : Int64))), x.2.2.1, ((x.2.2.2.1.1 + (1 : Int32)), (upd (upd x.2.2.2.1.2.1 3 (x.2.2.2.1.2.1 2)) 2 ((upd x.2.2.2.1.2.1 3 (x.2.2.2.1.2.1 2)) 1)), (vp_updL (vp_updL x.2.2.2.1.2.2 3 (x.2.2.2.1.2.2 2)) 2 ((vp_updL x.2.2.2.1.2.2 3 (x.2.2.2.1.2.2 2)) 1))), x.2.2.2.2.1, x.2.2.2.2.2.1, x.2.2.2.2.2.2.1, x.2.2.2.2.2.2.2.1, x.2.2.2.2.2.2.2.2.1, x.2.2.2.2.2.2.2.2.2.1, x.2.2.2.2.2.2.2.2.2.2.1, x.2.2.2.2.2.2.2.2.2.2.2.1, x.2.2.2.2.2.2.2.2.2.2.2.2.1, x.2.2.2.2.2.2.2.2.2.2.2.2.2.1, x.2.2.2.2.2.2.2.2.2.2.2.2.2.2))) hx hb hK hP hD hS 6 1 rfl rfl (inL (by decide)) (by decide) dX5_lookPage_137 rfl (fun H locs hP hD hS => ?_)
        refine lv_iinc (k := 0) (v := (1 : Int32)) (lv' := [(4, .int ((1 : Int32))), (5, .long (((x.2.1 (a2).toNatClampNeg) ||| (17179869184 : Int64)))), (0, .ref (ad 0)), (1, .int (a0)), (2, .int (a1)), (3, .int (a2))]) hx hb dX5_lookPage_138 hl rfl (by decide) (by decide) rfl (fun ls hl => ?_)
        refine lv_goto (tgt := 101) hx hb dX5_lookPage_141 (by decide) ?_
        refine lv_iload hx hb dX5_lookPage_101 (lv_at hl 0 rfl) ?_
        refine lv_if_le (tgt := 144) hx hb dX5_lookPage_103 (by decide) (fun h9 => absurd h9 (by decide)) (fun _ => ?_)
        refine lv_aload_n hx hb dX5_lookPage_106 rfl (lv_at hl 2 rfl) ?_
        refine va_get (D := D) (ci := 5) (v := .ref (ad 3)) hx hb hG inX5 hown hK hP 0 rfl rfl 5 (by decide) (hG _ kw254) (fun _ h9 => h9) rfl dX5_lookPage_107 ?_
        refine lv_iload hx hb dX5_lookPage_110 (lv_at hl 0 rfl) ?_
        refine lv_aload_n hx hb dX5_lookPage_112 rfl (lv_at hl 2 rfl) ?_
        refine va_get (D := D) (ci := 5) (v := .ref (ad 3)) hx hb hG inX5 hown hK hP 0 rfl rfl 5 (by decide) (hG _ kw254) (fun _ h9 => h9) rfl dX5_lookPage_113 ?_
        refine lv_iload hx hb dX5_lookPage_116 (lv_at hl 0 rfl) ?_
        refine lv_iconst (v := 1) hx hb dX5_lookPage_118 (by decide) ?_
        refine lv_isub hx hb dX5_lookPage_119 ?_
        refine tI (y := 0) (by decide) ?_
        refine gi (D := D) (j := 0) (f := (upd (upd x.2.2.2.1.2.1 3 (x.2.2.2.1.2.1 2)) 2 ((upd x.2.2.2.1.2.1 3 (x.2.2.2.1.2.1 2)) 1))) hx hb hK hP 3 0 rfl rfl (inL (by decide)) (by decide) dX5_lookPage_120 ?_
        refine si (D := D) (j := 1) (f := (upd (upd x.2.2.2.1.2.1 3 (x.2.2.2.1.2.1 2)) 2 ((upd x.2.2.2.1.2.1 3 (x.2.2.2.1.2.1 2)) 1))) (x := ((upd (upd x.2.2.2.1.2.1 3 (x.2.2.2.1.2.1 2)) 2 ((upd x.2.2.2.1.2.1 3 (x.2.2.2.1.2.1 2)) 1)) 0)) (W' := (wM cI cJ ad (x.1, (vp_updL x.2.1 (a2).toNatClampNeg ((x.2.1 (a2).toNatClampNeg) ||| (17179869184 : Int64))), x.2.2.1, ((x.2.2.2.1.1 + (1 : Int32)), (upd (upd (upd x.2.2.2.1.2.1 3 (x.2.2.2.1.2.1 2)) 2 ((upd x.2.2.2.1.2.1 3 (x.2.2.2.1.2.1 2)) 1)) 1 ((upd (upd x.2.2.2.1.2.1 3 (x.2.2.2.1.2.1 2)) 2 ((upd x.2.2.2.1.2.1 3 (x.2.2.2.1.2.1 2)) 1)) 0)), (vp_updL (vp_updL x.2.2.2.1.2.2 3 (x.2.2.2.1.2.2 2)) 2 ((vp_updL x.2.2.2.1.2.2 3 (x.2.2.2.1.2.2 2)) 1))), x.2.2.2.2.1, x.2.2.2.2.2.1, x.2.2.2.2.2.2.1, x.2.2.2.2.2.2.2.1, x.2.2.2.2.2.2.2.2.1, x.2.2.2.2.2.2.2.2.2.1, x.2.2.2.2.2.2.2.2.2.2.1, x.2.2.2.2.2.2.2.2.2.2.2.1, x.2.2.2.2.2.2.2.2.2.2.2.2.1, x.2.2.2.2.2.2.2.2.2.2.2.2.2.1, x.2.2.2.2.2.2.2.2.2.2.2.2.2.2))) hx hb hK hP hD hS 3 0 rfl rfl (inL (by decide)) (by decide) dX5_lookPage_121 rfl (fun H locs hP hD hS => ?_)
        refine lv_aload_n hx hb dX5_lookPage_122 rfl (lv_at hl 2 rfl) ?_
        refine va_get (D := D) (ci := 5) (v := .ref (ad 6)) hx hb hG inX5 hown hK hP 0 rfl rfl 8 (by decide) (hG _ kw268) (fun _ h9 => h9) rfl dX5_lookPage_123 ?_
        refine lv_iload hx hb dX5_lookPage_126 (lv_at hl 0 rfl) ?_
        refine lv_aload_n hx hb dX5_lookPage_128 rfl (lv_at hl 2 rfl) ?_
        refine va_get (D := D) (ci := 5) (v := .ref (ad 6)) hx hb hG inX5 hown hK hP 0 rfl rfl 8 (by decide) (hG _ kw268) (fun _ h9 => h9) rfl dX5_lookPage_129 ?_
        refine lv_iload hx hb dX5_lookPage_132 (lv_at hl 0 rfl) ?_
        refine lv_iconst (v := 1) hx hb dX5_lookPage_134 (by decide) ?_
        refine lv_isub hx hb dX5_lookPage_135 ?_
        refine tI (y := 0) (by decide) ?_
        refine gl (D := D) (j := 0) (f := (vp_updL (vp_updL x.2.2.2.1.2.2 3 (x.2.2.2.1.2.2 2)) 2 ((vp_updL x.2.2.2.1.2.2 3 (x.2.2.2.1.2.2 2)) 1))) hx hb hK hP 6 1 rfl rfl (inL (by decide)) (by decide) dX5_lookPage_136 ?_
        refine sl (D := D) (j := 1) (f := (vp_updL (vp_updL x.2.2.2.1.2.2 3 (x.2.2.2.1.2.2 2)) 2 ((vp_updL x.2.2.2.1.2.2 3 (x.2.2.2.1.2.2 2)) 1))) (x := ((vp_updL (vp_updL x.2.2.2.1.2.2 3 (x.2.2.2.1.2.2 2)) 2 ((vp_updL x.2.2.2.1.2.2 3 (x.2.2.2.1.2.2 2)) 1)) 0)) (W' := (wM cI cJ ad (x.1, (vp_updL x.2.1 (a2).toNatClampNeg ((x.2.1 (a2).toNatClampNeg) ||| (17179869184 : Int64))), x.2.2.1, ((x.2.2.2.1.1 + (1 : Int32)), (upd (upd (upd x.2.2.2.1.2.1 3 (x.2.2.2.1.2.1 2)) 2 ((upd x.2.2.2.1.2.1 3 (x.2.2.2.1.2.1 2)) 1)) 1 ((upd (upd x.2.2.2.1.2.1 3 (x.2.2.2.1.2.1 2)) 2 ((upd x.2.2.2.1.2.1 3 (x.2.2.2.1.2.1 2)) 1)) 0)), (vp_updL (vp_updL (vp_updL x.2.2.2.1.2.2 3 (x.2.2.2.1.2.2 2)) 2 ((vp_updL x.2.2.2.1.2.2 3 (x.2.2.2.1.2.2 2)) 1)) 1 ((vp_updL (vp_updL x.2.2.2.1.2.2 3 (x.2.2.2.1.2.2 2)) 2 ((vp_updL x.2.2.2.1.2.2 3 (x.2.2.2.1.2.2 2)) 1)) 0))), x.2.2.2.2.1, x.2.2.2.2.2.1, x.2.2.2.2.2.2.1, x.2.2.2.2.2.2.2.1, x.2.2.2.2.2.2.2.2.1, x.2.2.2.2.2.2.2.2.2.1, x.2.2.2.2.2.2.2.2.2.2.1, x.2.2.2.2.2.2.2.2.2.2.2.1, x.2.2.2.2.2.2.2.2.2.2.2.2.1, x.2.2.2.2.2.2.2.2.2.2.2.2.2.1, x.2.2.2.2.2.2.2.2.2.2.2.2.2.2))) hx hb hK hP hD hS 6 1 rfl rfl (inL (by decide)) (by decide) dX5_lookPage_137 rfl (fun H locs hP hD hS => ?_)
        refine lv_iinc (k := 0) (v := (0 : Int32)) (lv' := [(4, .int ((0 : Int32))), (5, .long (((x.2.1 (a2).toNatClampNeg) ||| (17179869184 : Int64)))), (0, .ref (ad 0)), (1, .int (a0)), (2, .int (a1)), (3, .int (a2))]) hx hb dX5_lookPage_138 hl rfl (by decide) (by decide) rfl (fun ls hl => ?_)
        refine lv_goto (tgt := 101) hx hb dX5_lookPage_141 (by decide) ?_
        refine lv_iload hx hb dX5_lookPage_101 (lv_at hl 0 rfl) ?_
        refine lv_if_le (tgt := 144) hx hb dX5_lookPage_103 (by decide) (fun _ => ?_) (fun h9 => absurd (by decide) h9)
        refine lv_aload_n hx hb dX5_lookPage_144 rfl (lv_at hl 2 rfl) ?_
        refine va_get (D := D) (ci := 5) (v := .ref (ad 3)) hx hb hG inX5 hown hK hP 0 rfl rfl 5 (by decide) (hG _ kw254) (fun _ h9 => h9) rfl dX5_lookPage_145 ?_
        refine lv_iconst (v := 0) hx hb dX5_lookPage_148 (by decide) ?_
        refine lv_bipush (v := 64) hx hb dX5_lookPage_149 (by decide) ?_
        refine lv_iload_n hx hb dX5_lookPage_151 rfl (lv_at hl 3 rfl) ?_
        refine lv_imul hx hb dX5_lookPage_152 ?_
        refine lv_iload_n hx hb dX5_lookPage_153 rfl (lv_at hl 4 rfl) ?_
        refine lv_iadd hx hb dX5_lookPage_154 ?_
        refine si (D := D) (j := 0) (f := (upd (upd (upd x.2.2.2.1.2.1 3 (x.2.2.2.1.2.1 2)) 2 ((upd x.2.2.2.1.2.1 3 (x.2.2.2.1.2.1 2)) 1)) 1 ((upd (upd x.2.2.2.1.2.1 3 (x.2.2.2.1.2.1 2)) 2 ((upd x.2.2.2.1.2.1 3 (x.2.2.2.1.2.1 2)) 1)) 0))) (x := (((64 : Int32) * a0) + a1)) (W' := (wM cI cJ ad (x.1, (vp_updL x.2.1 (a2).toNatClampNeg ((x.2.1 (a2).toNatClampNeg) ||| (17179869184 : Int64))), x.2.2.1, ((x.2.2.2.1.1 + (1 : Int32)), (upd (upd (upd (upd x.2.2.2.1.2.1 3 (x.2.2.2.1.2.1 2)) 2 ((upd x.2.2.2.1.2.1 3 (x.2.2.2.1.2.1 2)) 1)) 1 ((upd (upd x.2.2.2.1.2.1 3 (x.2.2.2.1.2.1 2)) 2 ((upd x.2.2.2.1.2.1 3 (x.2.2.2.1.2.1 2)) 1)) 0)) 0 (((64 : Int32) * a0) + a1)), (vp_updL (vp_updL (vp_updL x.2.2.2.1.2.2 3 (x.2.2.2.1.2.2 2)) 2 ((vp_updL x.2.2.2.1.2.2 3 (x.2.2.2.1.2.2 2)) 1)) 1 ((vp_updL (vp_updL x.2.2.2.1.2.2 3 (x.2.2.2.1.2.2 2)) 2 ((vp_updL x.2.2.2.1.2.2 3 (x.2.2.2.1.2.2 2)) 1)) 0))), x.2.2.2.2.1, x.2.2.2.2.2.1, x.2.2.2.2.2.2.1, x.2.2.2.2.2.2.2.1, x.2.2.2.2.2.2.2.2.1, x.2.2.2.2.2.2.2.2.2.1, x.2.2.2.2.2.2.2.2.2.2.1, x.2.2.2.2.2.2.2.2.2.2.2.1, x.2.2.2.2.2.2.2.2.2.2.2.2.1, x.2.2.2.2.2.2.2.2.2.2.2.2.2.1, x.2.2.2.2.2.2.2.2.2.2.2.2.2.2))) hx hb hK hP hD hS 3 0 rfl rfl (inL (by decide)) (by decide) dX5_lookPage_155 rfl (fun H locs hP hD hS => ?_)
        refine lv_aload_n hx hb dX5_lookPage_156 rfl (lv_at hl 2 rfl) ?_
        refine va_get (D := D) (ci := 5) (v := .ref (ad 6)) hx hb hG inX5 hown hK hP 0 rfl rfl 8 (by decide) (hG _ kw268) (fun _ h9 => h9) rfl dX5_lookPage_157 ?_
        refine lv_iconst (v := 0) hx hb dX5_lookPage_160 (by decide) ?_
        refine lv_lload hx hb dX5_lookPage_161 (lv_at hl 1 rfl) ?_
        refine sl (D := D) (j := 0) (f := (vp_updL (vp_updL (vp_updL x.2.2.2.1.2.2 3 (x.2.2.2.1.2.2 2)) 2 ((vp_updL x.2.2.2.1.2.2 3 (x.2.2.2.1.2.2 2)) 1)) 1 ((vp_updL (vp_updL x.2.2.2.1.2.2 3 (x.2.2.2.1.2.2 2)) 2 ((vp_updL x.2.2.2.1.2.2 3 (x.2.2.2.1.2.2 2)) 1)) 0))) (x := ((x.2.1 (a2).toNatClampNeg) ||| (17179869184 : Int64))) (W' := (wM cI cJ ad (x.1, (vp_updL x.2.1 (a2).toNatClampNeg ((x.2.1 (a2).toNatClampNeg) ||| (17179869184 : Int64))), x.2.2.1, ((x.2.2.2.1.1 + (1 : Int32)), (upd (upd (upd (upd x.2.2.2.1.2.1 3 (x.2.2.2.1.2.1 2)) 2 ((upd x.2.2.2.1.2.1 3 (x.2.2.2.1.2.1 2)) 1)) 1 ((upd (upd x.2.2.2.1.2.1 3 (x.2.2.2.1.2.1 2)) 2 ((upd x.2.2.2.1.2.1 3 (x.2.2.2.1.2.1 2)) 1)) 0)) 0 (((64 : Int32) * a0) + a1)), (vp_updL (vp_updL (vp_updL (vp_updL x.2.2.2.1.2.2 3 (x.2.2.2.1.2.2 2)) 2 ((vp_updL x.2.2.2.1.2.2 3 (x.2.2.2.1.2.2 2)) 1)) 1 ((vp_updL (vp_updL x.2.2.2.1.2.2 3 (x.2.2.2.1.2.2 2)) 2 ((vp_updL x.2.2.2.1.2.2 3 (x.2.2.2.1.2.2 2)) 1)) 0)) 0 ((x.2.1 (a2).toNatClampNeg) ||| (17179869184 : Int64)))), x.2.2.2.2.1, x.2.2.2.2.2.1, x.2.2.2.2.2.2.1, x.2.2.2.2.2.2.2.1, x.2.2.2.2.2.2.2.2.1, x.2.2.2.2.2.2.2.2.2.1, x.2.2.2.2.2.2.2.2.2.2.1, x.2.2.2.2.2.2.2.2.2.2.2.1, x.2.2.2.2.2.2.2.2.2.2.2.2.1, x.2.2.2.2.2.2.2.2.2.2.2.2.2.1, x.2.2.2.2.2.2.2.2.2.2.2.2.2.2))) hx hb hK hP hD hS 6 1 rfl rfl (inL (by decide)) (by decide) dX5_lookPage_163 rfl (fun H locs hP hD hS => ?_)
        refine lv_lload hx hb dX5_lookPage_164 (lv_at hl 1 rfl) ?_
        exact retl (u := (x.1, (vp_updL x.2.1 (a2).toNatClampNeg ((x.2.1 (a2).toNatClampNeg) ||| (17179869184 : Int64))), x.2.2.1, ((x.2.2.2.1.1 + (1 : Int32)), (upd (upd (upd (upd x.2.2.2.1.2.1 3 (x.2.2.2.1.2.1 2)) 2 ((upd x.2.2.2.1.2.1 3 (x.2.2.2.1.2.1 2)) 1)) 1 ((upd (upd x.2.2.2.1.2.1 3 (x.2.2.2.1.2.1 2)) 2 ((upd x.2.2.2.1.2.1 3 (x.2.2.2.1.2.1 2)) 1)) 0)) 0 (((64 : Int32) * a0) + a1)), (vp_updL (vp_updL (vp_updL (vp_updL x.2.2.2.1.2.2 3 (x.2.2.2.1.2.2 2)) 2 ((vp_updL x.2.2.2.1.2.2 3 (x.2.2.2.1.2.2 2)) 1)) 1 ((vp_updL (vp_updL x.2.2.2.1.2.2 3 (x.2.2.2.1.2.2 2)) 2 ((vp_updL x.2.2.2.1.2.2 3 (x.2.2.2.1.2.2 2)) 1)) 0)) 0 ((x.2.1 (a2).toNatClampNeg) ||| (17179869184 : Int64)))), x.2.2.2.2.1, x.2.2.2.2.2.1, x.2.2.2.2.2.2.1, x.2.2.2.2.2.2.2.1, x.2.2.2.2.2.2.2.2.1, x.2.2.2.2.2.2.2.2.2.1, x.2.2.2.2.2.2.2.2.2.2.1, x.2.2.2.2.2.2.2.2.2.2.2.1, x.2.2.2.2.2.2.2.2.2.2.2.2.1, x.2.2.2.2.2.2.2.2.2.2.2.2.2.1, x.2.2.2.2.2.2.2.2.2.2.2.2.2.2)) hx hb hr hlocks hK hP hD hS dX5_lookPage_166 (by unfold fnX5_lookPage; rw [← q1]; (try dsimp only); rw [if_neg h2]; rw [if_neg h7]; rw [if_neg h8]; rw [if_neg h9]; rw [if_neg h10]; rw [if_neg h11]; (try exact rfl))
    · refine lv_lload hx hb dX5_lookPage_47 (lv_at hl 0 rfl) ?_
      exact retl (u := x) hx hb hr hlocks hK hP hD hS dX5_lookPage_49 (by unfold fnX5_lookPage; rw [← q1]; (try dsimp only); rw [if_neg h2]; rw [if_pos h7]; (try exact rfl))
