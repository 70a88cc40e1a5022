def fnX4_performAtAddress (x : TR) (a0 : Int32) : Int32 × TR :=
  if a0 = (2 : Int32) then
   let p2 := fnX4_put x x.1.1
   (p2.1, p2.2)
  else
   if a0 = (3 : Int32) then
    let p4 := fnX4_load x (3 : Int32)
    (p4.1, p4.2)
   else
    if a0 = (4 : Int32) then
     let p6 := fnX4_load x (4 : Int32)
     (p6.1, p6.2)
    else
     if a0 = (5 : Int32) then
      let p8 := fnX4_load x (5 : Int32)
      (p8.1, p8.2)
     else
      if a0 = (6 : Int32) then
       let p10 := fnX4_load x (6 : Int32)
       (p10.1, p10.2)
      else
       if a0 = (7 : Int32) then
        let p12 := fnX4_load x (7 : Int32)
        (p12.1, p12.2)
       else
        if a0 = (8 : Int32) then
         let p14 := fnX4_load x (8 : Int32)
         (p14.1, p14.2)
        else
         if a0 = (9 : Int32) then
          let p16 := fnX4_load x (9 : Int32)
          (p16.1, p16.2)
         else
          if a0 = (10 : Int32) then
           let p18 := fnX4_put x x.1.2
           (p18.1, p18.2)
          else
           if a0 = (11 : Int32) then
            let p20 := fnX4_addOne x
            (p20.1, p20.2)
           else
            if a0 = (12 : Int32) then
             let p22 := fnX4_load x (12 : Int32)
             (p22.1, p22.2)
            else
             if a0 = (13 : Int32) then
              let p24 := fnX4_load x (13 : Int32)
              (p24.1, p24.2)
             else
              if a0 = (14 : Int32) then
               let p26 := fnX4_load x (14 : Int32)
               (p26.1, p26.2)
              else
               if a0 = (15 : Int32) then
                let p28 := fnX4_load x (15 : Int32)
                (p28.1, p28.2)
               else
                if a0 = (16 : Int32) then
                 let p30 := fnX4_put x (((x.2.2.1 0)).toInt64)
                 (p30.1, p30.2)
                else
                 if a0 = (17 : Int32) then
                  let p32 := fnX4_put x (((x.2.2.1 1)).toInt64)
                  (p32.1, p32.2)
                 else
                  if a0 = (18 : Int32) then
                   let p34 := fnX4_put x (((x.2.2.1 2)).toInt64)
                   (p34.1, p34.2)
                  else
                   if a0 = (19 : Int32) then
                    let p36 := fnX4_put x (((x.2.2.1 3)).toInt64)
                    (p36.1, p36.2)
                   else
                    if a0 = (20 : Int32) then
                     let p38 := fnX4_transfer x (1 : Int32)
                     (p38.1, p38.2)
                    else
                     if a0 = (21 : Int32) then
                      if x.1.1 = (0 : Int64) then
                       let p42 := fnX4_transfer x (1 : Int32)
                       (p42.1, p42.2)
                      else
                       let p41 := fnX4_transfer x (0 : Int32)
                       (p41.1, p41.2)
                     else
                      if a0 = (22 : Int32) then
                       if x.1.1 = (0 : Int64) then
                        let p45 := fnX4_transfer x (0 : Int32)
                        (p45.1, p45.2)
                       else
                        let p46 := fnX4_transfer x (1 : Int32)
                        (p46.1, p46.2)
                      else
                       if a0 = (23 : Int32) then
                        if (x.1.1 &&& (34359738368 : Int64)) = (0 : Int64) then
                         let p49 := fnX4_transfer x (0 : Int32)
                         (p49.1, p49.2)
                        else
                         let p50 := fnX4_transfer x (1 : Int32)
                         (p50.1, p50.2)
                       else
                        if a0 = (24 : Int32) then
                         let p52 := fnX2_become x.2.2.2.1.1 x.2.2.2.2.2.1
                         let p53 := fnX4_advance (x.1, x.2.1, x.2.2.1, (p52, x.2.2.2.1.2.1, x.2.2.2.1.2.2.1, x.2.2.2.1.2.2.2), x.2.2.2.2.1, x.2.2.2.2.2.1, x.2.2.2.2.2.2.1, x.2.2.2.2.2.2.2)
                         (p53.1, p53.2)
                        else
                         if a0 = (25 : Int32) then
                          let p55 := fnX2_become x.2.2.2.1.2.1 x.2.2.2.2.2.1
                          let p56 := fnX4_advance (x.1, x.2.1, x.2.2.1, (x.2.2.2.1.1, p55, x.2.2.2.1.2.2.1, x.2.2.2.1.2.2.2), x.2.2.2.2.1, x.2.2.2.2.2.1, x.2.2.2.2.2.2.1, x.2.2.2.2.2.2.2)
                          (p56.1, p56.2)
                         else
                          if a0 = (26 : Int32) then
                           let p58 := fnX2_become x.2.2.2.1.2.2.1 x.2.2.2.2.2.1
                           let p59 := fnX4_advance (x.1, x.2.1, x.2.2.1, (x.2.2.2.1.1, x.2.2.2.1.2.1, p58, x.2.2.2.1.2.2.2), x.2.2.2.2.1, x.2.2.2.2.2.1, x.2.2.2.2.2.2.1, x.2.2.2.2.2.2.2)
                           (p59.1, p59.2)
                          else
                           if a0 = (27 : Int32) then
                            let p61 := fnX2_become x.2.2.2.1.2.2.2 x.2.2.2.2.2.1
                            let p62 := fnX4_advance (x.1, x.2.1, x.2.2.1, (x.2.2.2.1.1, x.2.2.2.1.2.1, x.2.2.2.1.2.2.1, p61), x.2.2.2.2.1, x.2.2.2.2.2.1, x.2.2.2.2.2.2.1, x.2.2.2.2.2.2.2)
                            (p62.1, p62.2)
                           else
                            if a0 = (28 : Int32) then
                             let p64 := fnX2_asWord x.2.2.2.1.1
                             let p65 := fnX4_put x p64
                             (p65.1, p65.2)
                            else
                             if a0 = (29 : Int32) then
                              let p67 := fnX2_asWord x.2.2.2.1.2.1
                              let p68 := fnX4_put x p67
                              (p68.1, p68.2)
                             else
                              if a0 = (30 : Int32) then
                               let p70 := fnX2_asWord x.2.2.2.1.2.2.1
                               let p71 := fnX4_put x p70
                               (p71.1, p71.2)
                              else
                               if a0 = (31 : Int32) then
                                let p73 := fnX2_asWord x.2.2.2.1.2.2.2
                                let p74 := fnX4_put x p73
                                (p74.1, p74.2)
                               else
                                if a0 = (32 : Int32) then
                                 let p76 := fnX4_advance (((x.2.2.2.2.2.1.2.1).toInt64, x.1.2), x.2.1, x.2.2.1, x.2.2.2.1, x.2.2.2.2.1, x.2.2.2.2.2.1, x.2.2.2.2.2.2.1, x.2.2.2.2.2.2.2)
                                 (p76.1, p76.2)
                                else
                                 if a0 = (33 : Int32) then
                                  let p78 := fnX4_load x (33 : Int32)
                                  (p78.1, p78.2)
                                 else
                                  if a0 = (34 : Int32) then
                                   let p80 := fnX4_callAddress x
                                   (p80.1, p80.2)
                                  else
                                   if a0 = (35 : Int32) then
                                    let p82 := fnX4_returnByWord x
                                    (p82.1, p82.2)
                                   else
                                    let p83 := fnX4_load x a0
                                    (p83.1, p83.2)
abbrev ivX4_performAtAddressP (z : Int32 × TR) : Prop := i4 z.1 ∧ iR z.2
set_option maxRecDepth 100000 in
set_option maxHeartbeats 4000000 in
theorem ivX4_performAtAddress (x : TR) (a0 : Int32) (hI : iR x) : ivX4_performAtAddressP (fnX4_performAtAddress x a0) := by
  unfold fnX4_performAtAddress
  try dsimp only
  refine iteI (fun h1 => ?_) (fun h1 => ?_)
  · have j2 : ivX4_putP (fnX4_put x x.1.1) := ivX4_put x x.1.1 hI hI.1.1
    generalize fnX4_put x x.1.1 = p2 at j2 ⊢
    exact ⟨j2.1, j2.2⟩
  · refine iteI (fun h3 => ?_) (fun h3 => ?_)
    · have j4 : ivX4_loadP (fnX4_load x (3 : Int32)) := ivX4_load x (3 : Int32) hI
      generalize fnX4_load x (3 : Int32) = p4 at j4 ⊢
      exact ⟨j4.1, j4.2⟩
    · refine iteI (fun h5 => ?_) (fun h5 => ?_)
      · have j6 : ivX4_loadP (fnX4_load x (4 : Int32)) := ivX4_load x (4 : Int32) hI
        generalize fnX4_load x (4 : Int32) = p6 at j6 ⊢
        exact ⟨j6.1, j6.2⟩
      · refine iteI (fun h7 => ?_) (fun h7 => ?_)
        · have j8 : ivX4_loadP (fnX4_load x (5 : Int32)) := ivX4_load x (5 : Int32) hI
          generalize fnX4_load x (5 : Int32) = p8 at j8 ⊢
          exact ⟨j8.1, j8.2⟩
        · refine iteI (fun h9 => ?_) (fun h9 => ?_)
          · have j10 : ivX4_loadP (fnX4_load x (6 : Int32)) := ivX4_load x (6 : Int32) hI
            generalize fnX4_load x (6 : Int32) = p10 at j10 ⊢
            exact ⟨j10.1, j10.2⟩
          · refine iteI (fun h11 => ?_) (fun h11 => ?_)
            · have j12 : ivX4_loadP (fnX4_load x (7 : Int32)) := ivX4_load x (7 : Int32) hI
              generalize fnX4_load x (7 : Int32) = p12 at j12 ⊢
              exact ⟨j12.1, j12.2⟩
            · refine iteI (fun h13 => ?_) (fun h13 => ?_)
              · have j14 : ivX4_loadP (fnX4_load x (8 : Int32)) := ivX4_load x (8 : Int32) hI
                generalize fnX4_load x (8 : Int32) = p14 at j14 ⊢
                exact ⟨j14.1, j14.2⟩
              · refine iteI (fun h15 => ?_) (fun h15 => ?_)
                · have j16 : ivX4_loadP (fnX4_load x (9 : Int32)) := ivX4_load x (9 : Int32) hI
                  generalize fnX4_load x (9 : Int32) = p16 at j16 ⊢
                  exact ⟨j16.1, j16.2⟩
                · refine iteI (fun h17 => ?_) (fun h17 => ?_)
                  · have j18 : ivX4_putP (fnX4_put x x.1.2) := ivX4_put x x.1.2 hI hI.1.2
                    generalize fnX4_put x x.1.2 = p18 at j18 ⊢
                    exact ⟨j18.1, j18.2⟩
                  · refine iteI (fun h19 => ?_) (fun h19 => ?_)
                    · have j20 : ivX4_addOneP (fnX4_addOne x) := ivX4_addOne x hI
                      generalize fnX4_addOne x = p20 at j20 ⊢
                      exact ⟨j20.1, j20.2⟩
                    · refine iteI (fun h21 => ?_) (fun h21 => ?_)
                      · have j22 : ivX4_loadP (fnX4_load x (12 : Int32)) := ivX4_load x (12 : Int32) hI
                        generalize fnX4_load x (12 : Int32) = p22 at j22 ⊢
                        exact ⟨j22.1, j22.2⟩
                      · refine iteI (fun h23 => ?_) (fun h23 => ?_)
                        · have j24 : ivX4_loadP (fnX4_load x (13 : Int32)) := ivX4_load x (13 : Int32) hI
                          generalize fnX4_load x (13 : Int32) = p24 at j24 ⊢
                          exact ⟨j24.1, j24.2⟩
                        · refine iteI (fun h25 => ?_) (fun h25 => ?_)
                          · have j26 : ivX4_loadP (fnX4_load x (14 : Int32)) := ivX4_load x (14 : Int32) hI
                            generalize fnX4_load x (14 : Int32) = p26 at j26 ⊢
                            exact ⟨j26.1, j26.2⟩
                          · refine iteI (fun h27 => ?_) (fun h27 => ?_)
                            · have j28 : ivX4_loadP (fnX4_load x (15 : Int32)) := ivX4_load x (15 : Int32) hI
                              generalize fnX4_load x (15 : Int32) = p28 at j28 ⊢
                              exact ⟨j28.1, j28.2⟩
                            · refine iteI (fun h29 => ?_) (fun h29 => ?_)
                              · have j30 : ivX4_putP (fnX4_put x (((x.2.2.1 0)).toInt64)) := ivX4_put x (((x.2.2.1 0)).toInt64) hI (i2lW (hI.2.2.1 0))
                                generalize fnX4_put x (((x.2.2.1 0)).toInt64) = p30 at j30 ⊢
                                exact ⟨j30.1, j30.2⟩
                              · refine iteI (fun h31 => ?_) (fun h31 => ?_)
                                · have j32 : ivX4_putP (fnX4_put x (((x.2.2.1 1)).toInt64)) := ivX4_put x (((x.2.2.1 1)).toInt64) hI (i2lW (hI.2.2.1 1))
                                  generalize fnX4_put x (((x.2.2.1 1)).toInt64) = p32 at j32 ⊢
                                  exact ⟨j32.1, j32.2⟩
                                · refine iteI (fun h33 => ?_) (fun h33 => ?_)
                                  · have j34 : ivX4_putP (fnX4_put x (((x.2.2.1 2)).toInt64)) := ivX4_put x (((x.2.2.1 2)).toInt64) hI (i2lW (hI.2.2.1 2))
                                    generalize fnX4_put x (((x.2.2.1 2)).toInt64) = p34 at j34 ⊢
                                    exact ⟨j34.1, j34.2⟩
                                  · refine iteI (fun h35 => ?_) (fun h35 => ?_)
                                    · have j36 : ivX4_putP (fnX4_put x (((x.2.2.1 3)).toInt64)) := ivX4_put x (((x.2.2.1 3)).toInt64) hI (i2lW (hI.2.2.1 3))
                                      generalize fnX4_put x (((x.2.2.1 3)).toInt64) = p36 at j36 ⊢
                                      exact ⟨j36.1, j36.2⟩
                                    · refine iteI (fun h37 => ?_) (fun h37 => ?_)
                                      · have j38 : ivX4_transferP (fnX4_transfer x (1 : Int32)) := ivX4_transfer x (1 : Int32) hI
                                        generalize fnX4_transfer x (1 : Int32) = p38 at j38 ⊢
                                        exact ⟨j38.1, j38.2⟩
                                      · refine iteI (fun h39 => ?_) (fun h39 => ?_)
                                        · refine iteI (fun h40 => ?_) (fun h40 => ?_)
                                          · have j42 : ivX4_transferP (fnX4_transfer x (1 : Int32)) := ivX4_transfer x (1 : Int32) hI
                                            generalize fnX4_transfer x (1 : Int32) = p42 at j42 ⊢
                                            exact ⟨j42.1, j42.2⟩
                                          · have j41 : ivX4_transferP (fnX4_transfer x (0 : Int32)) := ivX4_transfer x (0 : Int32) hI
                                            generalize fnX4_transfer x (0 : Int32) = p41 at j41 ⊢
                                            exact ⟨j41.1, j41.2⟩
                                        · refine iteI (fun h43 => ?_) (fun h43 => ?_)
                                          · refine iteI (fun h44 => ?_) (fun h44 => ?_)
                                            · have j45 : ivX4_transferP (fnX4_transfer x (0 : Int32)) := ivX4_transfer x (0 : Int32) hI
                                              generalize fnX4_transfer x (0 : Int32) = p45 at j45 ⊢
                                              exact ⟨j45.1, j45.2⟩
                                            · have j46 : ivX4_transferP (fnX4_transfer x (1 : Int32)) := ivX4_transfer x (1 : Int32) hI
                                              generalize fnX4_transfer x (1 : Int32) = p46 at j46 ⊢
                                              exact ⟨j46.1, j46.2⟩
                                          · refine iteI (fun h47 => ?_) (fun h47 => ?_)
                                            · refine iteI (fun h48 => ?_) (fun h48 => ?_)
                                              · have j49 : ivX4_transferP (fnX4_transfer x (0 : Int32)) := ivX4_transfer x (0 : Int32) hI
                                                generalize fnX4_transfer x (0 : Int32) = p49 at j49 ⊢
                                                exact ⟨j49.1, j49.2⟩
                                              · have j50 : ivX4_transferP (fnX4_transfer x (1 : Int32)) := ivX4_transfer x (1 : Int32) hI
                                                generalize fnX4_transfer x (1 : Int32) = p50 at j50 ⊢
                                                exact ⟨j50.1, j50.2⟩
                                            · refine iteI (fun h51 => ?_) (fun h51 => ?_)
                                              · have j52 : ivX2_becomeP (fnX2_become x.2.2.2.1.1 x.2.2.2.2.2.1) := ivX2_become x.2.2.2.1.1 x.2.2.2.2.2.1 hI.2.2.2.1.1 hI.2.2.2.2.2.1
                                                generalize fnX2_become x.2.2.2.1.1 x.2.2.2.2.2.1 = p52 at j52 ⊢
                                                have j53 : ivX4_advanceP (fnX4_advance (x.1, x.2.1, x.2.2.1, (p52, x.2.2.2.1.2.1, x.2.2.2.1.2.2.1, x.2.2.2.1.2.2.2), x.2.2.2.2.1, x.2.2.2.2.2.1, x.2.2.2.2.2.2.1, x.2.2.2.2.2.2.2)) := ivX4_advance (x.1, x.2.1, x.2.2.1, (p52, x.2.2.2.1.2.1, x.2.2.2.1.2.2.1, x.2.2.2.1.2.2.2), x.2.2.2.2.1, x.2.2.2.2.2.1, x.2.2.2.2.2.2.1, x.2.2.2.2.2.2.2) ⟨hI.1, hI.2.1, hI.2.2.1, ⟨j52, hI.2.2.2.1.2.1, hI.2.2.2.1.2.2.1, hI.2.2.2.1.2.2.2⟩, hI.2.2.2.2.1, hI.2.2.2.2.2.1, hI.2.2.2.2.2.2.1, hI.2.2.2.2.2.2.2⟩
                                                generalize fnX4_advance (x.1, x.2.1, x.2.2.1, (p52, x.2.2.2.1.2.1, x.2.2.2.1.2.2.1, x.2.2.2.1.2.2.2), x.2.2.2.2.1, x.2.2.2.2.2.1, x.2.2.2.2.2.2.1, x.2.2.2.2.2.2.2) = p53 at j53 ⊢
                                                exact ⟨j53.1, j53.2⟩
                                              · refine iteI (fun h54 => ?_) (fun h54 => ?_)
                                                · have j55 : ivX2_becomeP (fnX2_become x.2.2.2.1.2.1 x.2.2.2.2.2.1) := ivX2_become x.2.2.2.1.2.1 x.2.2.2.2.2.1 hI.2.2.2.1.2.1 hI.2.2.2.2.2.1
                                                  generalize fnX2_become x.2.2.2.1.2.1 x.2.2.2.2.2.1 = p55 at j55 ⊢
                                                  have j56 : ivX4_advanceP (fnX4_advance (x.1, x.2.1, x.2.2.1, (x.2.2.2.1.1, p55, x.2.2.2.1.2.2.1, x.2.2.2.1.2.2.2), x.2.2.2.2.1, x.2.2.2.2.2.1, x.2.2.2.2.2.2.1, x.2.2.2.2.2.2.2)) := ivX4_advance (x.1, x.2.1, x.2.2.1, (x.2.2.2.1.1, p55, x.2.2.2.1.2.2.1, x.2.2.2.1.2.2.2), x.2.2.2.2.1, x.2.2.2.2.2.1, x.2.2.2.2.2.2.1, x.2.2.2.2.2.2.2) ⟨hI.1, hI.2.1, hI.2.2.1, ⟨hI.2.2.2.1.1, j55, hI.2.2.2.1.2.2.1, hI.2.2.2.1.2.2.2⟩, hI.2.2.2.2.1, hI.2.2.2.2.2.1, hI.2.2.2.2.2.2.1, hI.2.2.2.2.2.2.2⟩
                                                  generalize fnX4_advance (x.1, x.2.1, x.2.2.1, (x.2.2.2.1.1, p55, x.2.2.2.1.2.2.1, x.2.2.2.1.2.2.2), x.2.2.2.2.1, x.2.2.2.2.2.1, x.2.2.2.2.2.2.1, x.2.2.2.2.2.2.2) = p56 at j56 ⊢
                                                  exact ⟨j56.1, j56.2⟩
                                                · refine iteI (fun h57 => ?_) (fun h57 => ?_)
                                                  · have j58 : ivX2_becomeP (fnX2_become x.2.2.2.1.2.2.1 x.2.2.2.2.2.1) := ivX2_become x.2.2.2.1.2.2.1 x.2.2.2.2.2.1 hI.2.2.2.1.2.2.1 hI.2.2.2.2.2.1
                                                    generalize fnX2_become x.2.2.2.1.2.2.1 x.2.2.2.2.2.1 = p58 at j58 ⊢
                                                    have j59 : ivX4_advanceP (fnX4_advance (x.1, x.2.1, x.2.2.1, (x.2.2.2.1.1, x.2.2.2.1.2.1, p58, x.2.2.2.1.2.2.2), x.2.2.2.2.1, x.2.2.2.2.2.1, x.2.2.2.2.2.2.1, x.2.2.2.2.2.2.2)) := ivX4_advance (x.1, x.2.1, x.2.2.1, (x.2.2.2.1.1, x.2.2.2.1.2.1, p58, x.2.2.2.1.2.2.2), x.2.2.2.2.1, x.2.2.2.2.2.1, x.2.2.2.2.2.2.1, x.2.2.2.2.2.2.2) ⟨hI.1, hI.2.1, hI.2.2.1, ⟨hI.2.2.2.1.1, hI.2.2.2.1.2.1, j58, hI.2.2.2.1.2.2.2⟩, hI.2.2.2.2.1, hI.2.2.2.2.2.1, hI.2.2.2.2.2.2.1, hI.2.2.2.2.2.2.2⟩
                                                    generalize fnX4_advance (x.1, x.2.1, x.2.2.1, (x.2.2.2.1.1, x.2.2.2.1.2.1, p58, x.2.2.2.1.2.2.2), x.2.2.2.2.1, x.2.2.2.2.2.1, x.2.2.2.2.2.2.1, x.2.2.2.2.2.2.2) = p59 at j59 ⊢
                                                    exact ⟨j59.1, j59.2⟩
                                                  · refine iteI (fun h60 => ?_) (fun h60 => ?_)
                                                    · have j61 : ivX2_becomeP (fnX2_become x.2.2.2.1.2.2.2 x.2.2.2.2.2.1) := ivX2_become x.2.2.2.1.2.2.2 x.2.2.2.2.2.1 hI.2.2.2.1.2.2.2 hI.2.2.2.2.2.1
                                                      generalize fnX2_become x.2.2.2.1.2.2.2 x.2.2.2.2.2.1 = p61 at j61 ⊢
                                                      have j62 : ivX4_advanceP (fnX4_advance (x.1, x.2.1, x.2.2.1, (x.2.2.2.1.1, x.2.2.2.1.2.1, x.2.2.2.1.2.2.1, p61), x.2.2.2.2.1, x.2.2.2.2.2.1, x.2.2.2.2.2.2.1, x.2.2.2.2.2.2.2)) := ivX4_advance (x.1, x.2.1, x.2.2.1, (x.2.2.2.1.1, x.2.2.2.1.2.1, x.2.2.2.1.2.2.1, p61), x.2.2.2.2.1, x.2.2.2.2.2.1, x.2.2.2.2.2.2.1, x.2.2.2.2.2.2.2) ⟨hI.1, hI.2.1, hI.2.2.1, ⟨hI.2.2.2.1.1, hI.2.2.2.1.2.1, hI.2.2.2.1.2.2.1, j61⟩, hI.2.2.2.2.1, hI.2.2.2.2.2.1, hI.2.2.2.2.2.2.1, hI.2.2.2.2.2.2.2⟩
                                                      generalize fnX4_advance (x.1, x.2.1, x.2.2.1, (x.2.2.2.1.1, x.2.2.2.1.2.1, x.2.2.2.1.2.2.1, p61), x.2.2.2.2.1, x.2.2.2.2.2.1, x.2.2.2.2.2.2.1, x.2.2.2.2.2.2.2) = p62 at j62 ⊢
                                                      exact ⟨j62.1, j62.2⟩
                                                    · refine iteI (fun h63 => ?_) (fun h63 => ?_)
                                                      · have j64 : ivX2_asWordP (fnX2_asWord x.2.2.2.1.1) := ivX2_asWord x.2.2.2.1.1 hI.2.2.2.1.1
                                                        generalize fnX2_asWord x.2.2.2.1.1 = p64 at j64 ⊢
                                                        have j65 : ivX4_putP (fnX4_put x p64) := ivX4_put x p64 hI j64
                                                        generalize fnX4_put x p64 = p65 at j65 ⊢
                                                        exact ⟨j65.1, j65.2⟩
                                                      · refine iteI (fun h66 => ?_) (fun h66 => ?_)
                                                        · have j67 : ivX2_asWordP (fnX2_asWord x.2.2.2.1.2.1) := ivX2_asWord x.2.2.2.1.2.1 hI.2.2.2.1.2.1
                                                          generalize fnX2_asWord x.2.2.2.1.2.1 = p67 at j67 ⊢
                                                          have j68 : ivX4_putP (fnX4_put x p67) := ivX4_put x p67 hI j67
                                                          generalize fnX4_put x p67 = p68 at j68 ⊢
                                                          exact ⟨j68.1, j68.2⟩
                                                        · refine iteI (fun h69 => ?_) (fun h69 => ?_)
                                                          · have j70 : ivX2_asWordP (fnX2_asWord x.2.2.2.1.2.2.1) := ivX2_asWord x.2.2.2.1.2.2.1 hI.2.2.2.1.2.2.1
                                                            generalize fnX2_asWord x.2.2.2.1.2.2.1 = p70 at j70 ⊢
                                                            have j71 : ivX4_putP (fnX4_put x p70) := ivX4_put x p70 hI j70
                                                            generalize fnX4_put x p70 = p71 at j71 ⊢
                                                            exact ⟨j71.1, j71.2⟩
                                                          · refine iteI (fun h72 => ?_) (fun h72 => ?_)
                                                            · have j73 : ivX2_asWordP (fnX2_asWord x.2.2.2.1.2.2.2) := ivX2_asWord x.2.2.2.1.2.2.2 hI.2.2.2.1.2.2.2
                                                              generalize fnX2_asWord x.2.2.2.1.2.2.2 = p73 at j73 ⊢
                                                              have j74 : ivX4_putP (fnX4_put x p73) := ivX4_put x p73 hI j73
                                                              generalize fnX4_put x p73 = p74 at j74 ⊢
                                                              exact ⟨j74.1, j74.2⟩
                                                            · refine iteI (fun h75 => ?_) (fun h75 => ?_)
                                                              · have j76 : ivX4_advanceP (fnX4_advance (((x.2.2.2.2.2.1.2.1).toInt64, x.1.2), x.2.1, x.2.2.1, x.2.2.2.1, x.2.2.2.2.1, x.2.2.2.2.2.1, x.2.2.2.2.2.2.1, x.2.2.2.2.2.2.2)) := ivX4_advance (((x.2.2.2.2.2.1.2.1).toInt64, x.1.2), x.2.1, x.2.2.1, x.2.2.2.1, x.2.2.2.2.1, x.2.2.2.2.2.1, x.2.2.2.2.2.2.1, x.2.2.2.2.2.2.2) ⟨⟨(i2lW hI.2.2.2.2.2.1.2.1), hI.1.2⟩, hI.2.1, hI.2.2.1, hI.2.2.2.1, hI.2.2.2.2.1, hI.2.2.2.2.2.1, hI.2.2.2.2.2.2.1, hI.2.2.2.2.2.2.2⟩
                                                                generalize fnX4_advance (((x.2.2.2.2.2.1.2.1).toInt64, x.1.2), x.2.1, x.2.2.1, x.2.2.2.1, x.2.2.2.2.1, x.2.2.2.2.2.1, x.2.2.2.2.2.2.1, x.2.2.2.2.2.2.2) = p76 at j76 ⊢
                                                                exact ⟨j76.1, j76.2⟩
                                                              · refine iteI (fun h77 => ?_) (fun h77 => ?_)
                                                                · have j78 : ivX4_loadP (fnX4_load x (33 : Int32)) := ivX4_load x (33 : Int32) hI
                                                                  generalize fnX4_load x (33 : Int32) = p78 at j78 ⊢
                                                                  exact ⟨j78.1, j78.2⟩
                                                                · refine iteI (fun h79 => ?_) (fun h79 => ?_)
                                                                  · have j80 : ivX4_callAddressP (fnX4_callAddress x) := ivX4_callAddress x hI
                                                                    generalize fnX4_callAddress x = p80 at j80 ⊢
                                                                    exact ⟨j80.1, j80.2⟩
                                                                  · refine iteI (fun h81 => ?_) (fun h81 => ?_)
                                                                    · have j82 : ivX4_returnByWordP (fnX4_returnByWord x) := ivX4_returnByWord x hI
                                                                      generalize fnX4_returnByWord x = p82 at j82 ⊢
                                                                      exact ⟨j82.1, j82.2⟩
                                                                    · have j83 : ivX4_loadP (fnX4_load x a0) := ivX4_load x a0 hI
                                                                      generalize fnX4_load x a0 = p83 at j83 ⊢
                                                                      exact ⟨j83.1, j83.2⟩
set_option maxRecDepth 100000 in
set_option maxHeartbeats 4000000 in
theorem okX4_performAtAddress (l : Launch) (D : va_G) (cI cJ cP : ClassId) (ad : Nat → Nat) (sz : Nat) (x : TR) (a0 : Int32) (hI : iR x) : Met l yX4_performAtAddress (Cond.code yX4_performAtAddress cX4_performAtAddress 3 (some .int) :: gG) { frames := 5, cells := 0, slots := 0, locals := 129 } (va_Pc [.ref (ad 0), .int a0] (PRE D (tz cI cJ cP) sz (wR cI cJ cP ad x))) (va_Qi (fun (r : Int32) (u : TR) => (r, u) = fnX4_performAtAddress x a0) (AT D (tz cI cJ cP) (va_A (wR cI cJ cP ad x) sz) (fun (u : TR) => (wR cI cJ cP ad u))) (va_A (wR cI cJ cP ad x) sz)) 0 0 (va_A (wR cI cJ cP ad x) sz) := by
  refine mo (QA := fun A => va_Qi (fun (r : Int32) (u : TR) => (r, u) = fnX4_performAtAddress x a0) (AT D (tz cI cJ cP) A (fun (u : TR) => (wR cI cJ cP ad u))) A) (by decide) (Nat.le_of_ble_eq_true rfl) ?_
  intro p e s m below meth c A ls H hx hb hr hml hown hG hlocks hnm hA hS hP hK hD hl hN
  have hown : s.vm.findClass RX4 = some m.cls := hown
  have hl : lv_has ls 3 [(0, .ref (ad 0)), (1, .int a0)] := hl
  refine lv_iload_n hx hb dX4_performAtAddress_0 rfl (lv_at hl 1 rfl) ?_
  refine lv_iconst (v := 3) hx hb dX4_performAtAddress_1 (by decide) ?_
  refine lv_iand hx hb dX4_performAtAddress_2 ?_
  refine lv_istore_n (lv' := [(2, .int ((a0 &&& (3 : Int32)))), (0, .ref (ad 0)), (1, .int (a0))]) hx hb dX4_performAtAddress_3 rfl hl (by decide) rfl (fun ls hl => ?_)
  refine lv_iload_n hx hb dX4_performAtAddress_4 rfl (lv_at hl 2 rfl) ?_
  by_cases h1 : a0 = (2 : Int32)
  · refine lv_tableIn (off := 151) (tgt := 156) hx hb dX4_performAtAddress_5 (by rw [h1]; decide) (by rw [h1]; decide) (by rw [h1]; decide) (by decide) ?_
    subst h1
    refine lv_aload_n hx hb dX4_performAtAddress_156 rfl (lv_at hl 1 rfl) ?_
    refine lv_aload_n hx hb dX4_performAtAddress_157 rfl (lv_at hl 1 rfl) ?_
    refine va_get (D := D) (ci := 4) (v := .long (x.1.1)) hx hb hG inX4 hown hK hP 0 rfl rfl 1 (by decide) (hG _ kw90) (fun _ h9 => h9) rfl dX4_performAtAddress_158 ?_
    refine kFi (As := [.long (x.1.1)]) (rest := []) hx hb hml hown hG hl (okX4_put l D cI cJ cP ad H.size x x.1.1 hI hI.1.1) (cV 1 hG kw164 kw165 kw166 kw167 kw5 hdX4_put ⟨by decide, by decide⟩) 0 4 rfl rfl hK hP hD hS hA hN rfl rfl (Nat.le_of_ble_eq_true rfl) dX4_performAtAddress_161 ⟨Nat.zero_le _, Nat.zero_le _⟩ (fun r2 u2 q2 H locs hP hD hS => ?_)
    have j2 : ivX4_putP (r2, u2) := by rw [q2]; exact ivX4_put x x.1.1 hI hI.1.1
    exact reti (u := u2) hx hb hr hlocks hK hP hD hS dX4_performAtAddress_164 (by unfold fnX4_performAtAddress; (try dsimp only); rw [if_pos (rfl : (2 : Int32) = (2 : Int32))]; rw [← q2]; (try dsimp only); (try exact rfl))
  by_cases h3 : a0 = (3 : Int32)
  · refine lv_tableIn (off := 312) (tgt := 317) hx hb dX4_performAtAddress_5 (by rw [h3]; decide) (by rw [h3]; decide) (by rw [h3]; decide) (by decide) ?_
    subst h3
    refine lv_aload_n hx hb dX4_performAtAddress_317 rfl (lv_at hl 1 rfl) ?_
    refine lv_iload_n hx hb dX4_performAtAddress_318 rfl (lv_at hl 2 rfl) ?_
    refine kFi (As := [.int ((3 : Int32))]) (rest := []) hx hb hml hown hG hl (okX4_load l D cI cJ cP ad H.size x (3 : Int32) hI) (cV 1 hG kw168 kw169 kw170 kw171 kw5 hdX4_load ⟨by decide, by decide⟩) 0 4 rfl rfl hK hP hD hS hA hN rfl rfl (Nat.le_of_ble_eq_true rfl) dX4_performAtAddress_319 ⟨Nat.zero_le _, Nat.zero_le _⟩ (fun r4 u4 q4 H locs hP hD hS => ?_)
    have j4 : ivX4_loadP (r4, u4) := by rw [q4]; exact ivX4_load x (3 : Int32) hI
    exact reti (u := u4) hx hb hr hlocks hK hP hD hS dX4_performAtAddress_322 (by unfold fnX4_performAtAddress; (try dsimp only); rw [if_neg h1]; rw [if_pos (rfl : (3 : Int32) = (3 : Int32))]; rw [← q4]; (try dsimp only); (try exact rfl))
  by_cases h5 : a0 = (4 : Int32)
  · refine lv_tableIn (off := 312) (tgt := 317) hx hb dX4_performAtAddress_5 (by rw [h5]; decide) (by rw [h5]; decide) (by rw [h5]; decide) (by decide) ?_
    subst h5
    refine lv_aload_n hx hb dX4_performAtAddress_317 rfl (lv_at hl 1 rfl) ?_
    refine lv_iload_n hx hb dX4_performAtAddress_318 rfl (lv_at hl 2 rfl) ?_
    refine kFi (As := [.int ((4 : Int32))]) (rest := []) hx hb hml hown hG hl (okX4_load l D cI cJ cP ad H.size x (4 : Int32) hI) (cV 1 hG kw168 kw169 kw170 kw171 kw5 hdX4_load ⟨by decide, by decide⟩) 0 4 rfl rfl hK hP hD hS hA hN rfl rfl (Nat.le_of_ble_eq_true rfl) dX4_performAtAddress_319 ⟨Nat.zero_le _, Nat.zero_le _⟩ (fun r6 u6 q6 H locs hP hD hS => ?_)
    have j6 : ivX4_loadP (r6, u6) := by rw [q6]; exact ivX4_load x (4 : Int32) hI
    exact reti (u := u6) hx hb hr hlocks hK hP hD hS dX4_performAtAddress_322 (by unfold fnX4_performAtAddress; (try dsimp only); rw [if_neg h1]; rw [if_neg h3]; rw [if_pos (rfl : (4 : Int32) = (4 : Int32))]; rw [← q6]; (try dsimp only); (try exact rfl))
  by_cases h7 : a0 = (5 : Int32)
  · refine lv_tableIn (off := 312) (tgt := 317) hx hb dX4_performAtAddress_5 (by rw [h7]; decide) (by rw [h7]; decide) (by rw [h7]; decide) (by decide) ?_
    subst h7
    refine lv_aload_n hx hb dX4_performAtAddress_317 rfl (lv_at hl 1 rfl) ?_
    refine lv_iload_n hx hb dX4_performAtAddress_318 rfl (lv_at hl 2 rfl) ?_
    refine kFi (As := [.int ((5 : Int32))]) (rest := []) hx hb hml hown hG hl (okX4_load l D cI cJ cP ad H.size x (5 : Int32) hI) (cV 1 hG kw168 kw169 kw170 kw171 kw5 hdX4_load ⟨by decide, by decide⟩) 0 4 rfl rfl hK hP hD hS hA hN rfl rfl (Nat.le_of_ble_eq_true rfl) dX4_performAtAddress_319 ⟨Nat.zero_le _, Nat.zero_le _⟩ (fun r8 u8 q8 H locs hP hD hS => ?_)
    have j8 : ivX4_loadP (r8, u8) := by rw [q8]; exact ivX4_load x (5 : Int32) hI
    exact reti (u := u8) hx hb hr hlocks hK hP hD hS dX4_performAtAddress_322 (by unfold fnX4_performAtAddress; (try dsimp only); rw [if_neg h1]; rw [if_neg h3]; rw [if_neg h5]; rw [if_pos (rfl : (5 : Int32) = (5 : Int32))]; rw [← q8]; (try dsimp only); (try exact rfl))
  by_cases h9 : a0 = (6 : Int32)
  · refine lv_tableIn (off := 312) (tgt := 317) hx hb dX4_performAtAddress_5 (by rw [h9]; decide) (by rw [h9]; decide) (by rw [h9]; decide) (by decide) ?_
    subst h9
    refine lv_aload_n hx hb dX4_performAtAddress_317 rfl (lv_at hl 1 rfl) ?_
    refine lv_iload_n hx hb dX4_performAtAddress_318 rfl (lv_at hl 2 rfl) ?_
    refine kFi (As := [.int ((6 : Int32))]) (rest := []) hx hb hml hown hG hl (okX4_load l D cI cJ cP ad H.size x (6 : Int32) hI) (cV 1 hG kw168 kw169 kw170 kw171 kw5 hdX4_load ⟨by decide, by decide⟩) 0 4 rfl rfl hK hP hD hS hA hN rfl rfl (Nat.le_of_ble_eq_true rfl) dX4_performAtAddress_319 ⟨Nat.zero_le _, Nat.zero_le _⟩ (fun r10 u10 q10 H locs hP hD hS => ?_)
    have j10 : ivX4_loadP (r10, u10) := by rw [q10]; exact ivX4_load x (6 : Int32) hI
    exact reti (u := u10) hx hb hr hlocks hK hP hD hS dX4_performAtAddress_322 (by unfold fnX4_performAtAddress; (try dsimp only); rw [if_neg h1]; rw [if_neg h3]; rw [if_neg h5]; rw [if_neg h7]; rw [if_pos (rfl : (6 : Int32) = (6 : Int32))]; rw [← q10]; (try dsimp only); (try exact rfl))
  by_cases h11 : a0 = (7 : Int32)
  · refine lv_tableIn (off := 312) (tgt := 317) hx hb dX4_performAtAddress_5 (by rw [h11]; decide) (by rw [h11]; decide) (by rw [h11]; decide) (by decide) ?_
    subst h11
    refine lv_aload_n hx hb dX4_performAtAddress_317 rfl (lv_at hl 1 rfl) ?_
    refine lv_iload_n hx hb dX4_performAtAddress_318 rfl (lv_at hl 2 rfl) ?_
    refine kFi (As := [.int ((7 : Int32))]) (rest := []) hx hb hml hown hG hl (okX4_load l D cI cJ cP ad H.size x (7 : Int32) hI) (cV 1 hG kw168 kw169 kw170 kw171 kw5 hdX4_load ⟨by decide, by decide⟩) 0 4 rfl rfl hK hP hD hS hA hN rfl rfl (Nat.le_of_ble_eq_true rfl) dX4_performAtAddress_319 ⟨Nat.zero_le _, Nat.zero_le _⟩ (fun r12 u12 q12 H locs hP hD hS => ?_)
    have j12 : ivX4_loadP (r12, u12) := by rw [q12]; exact ivX4_load x (7 : Int32) hI
    exact reti (u := u12) hx hb hr hlocks hK hP hD hS dX4_performAtAddress_322 (by unfold fnX4_performAtAddress; (try dsimp only); rw [if_neg h1]; rw [if_neg h3]; rw [if_neg h5]; rw [if_neg h7]; rw [if_neg h9]; rw [if_pos (rfl : (7 : Int32) = (7 : Int32))]; rw [← q12]; (try dsimp only); (try exact rfl))
  by_cases h13 : a0 = (8 : Int32)
  · refine lv_tableIn (off := 312) (tgt := 317) hx hb dX4_performAtAddress_5 (by rw [h13]; decide) (by rw [h13]; decide) (by rw [h13]; decide) (by decide) ?_
    subst h13
    refine lv_aload_n hx hb dX4_performAtAddress_317 rfl (lv_at hl 1 rfl) ?_
    refine lv_iload_n hx hb dX4_performAtAddress_318 rfl (lv_at hl 2 rfl) ?_
    refine kFi (As := [.int ((8 : Int32))]) (rest := []) hx hb hml hown hG hl (okX4_load l D cI cJ cP ad H.size x (8 : Int32) hI) (cV 1 hG kw168 kw169 kw170 kw171 kw5 hdX4_load ⟨by decide, by decide⟩) 0 4 rfl rfl hK hP hD hS hA hN rfl rfl (Nat.le_of_ble_eq_true rfl) dX4_performAtAddress_319 ⟨Nat.zero_le _, Nat.zero_le _⟩ (fun r14 u14 q14 H locs hP hD hS => ?_)
    have j14 : ivX4_loadP (r14, u14) := by rw [q14]; exact ivX4_load x (8 : Int32) hI
    exact reti (u := u14) hx hb hr hlocks hK hP hD hS dX4_performAtAddress_322 (by unfold fnX4_performAtAddress; (try dsimp only); rw [if_neg h1]; rw [if_neg h3]; rw [if_neg h5]; rw [if_neg h7]; rw [if_neg h9]; rw [if_neg h11]; rw [if_pos (rfl : (8 : Int32) = (8 : Int32))]; rw [← q14]; (try dsimp only); (try exact rfl))
  by_cases h15 : a0 = (9 : Int32)
  · refine lv_tableIn (off := 312) (tgt := 317) hx hb dX4_performAtAddress_5 (by rw [h15]; decide) (by rw [h15]; decide) (by rw [h15]; decide) (by decide) ?_
    subst h15
    refine lv_aload_n hx hb dX4_performAtAddress_317 rfl (lv_at hl 1 rfl) ?_
    refine lv_iload_n hx hb dX4_performAtAddress_318 rfl (lv_at hl 2 rfl) ?_
    refine kFi (As := [.int ((9 : Int32))]) (rest := []) hx hb hml hown hG hl (okX4_load l D cI cJ cP ad H.size x (9 : Int32) hI) (cV 1 hG kw168 kw169 kw170 kw171 kw5 hdX4_load ⟨by decide, by decide⟩) 0 4 rfl rfl hK hP hD hS hA hN rfl rfl (Nat.le_of_ble_eq_true rfl) dX4_performAtAddress_319 ⟨Nat.zero_le _, Nat.zero_le _⟩ (fun r16 u16 q16 H locs hP hD hS => ?_)
    have j16 : ivX4_loadP (r16, u16) := by rw [q16]; exact ivX4_load x (9 : Int32) hI
    exact reti (u := u16) hx hb hr hlocks hK hP hD hS dX4_performAtAddress_322 (by unfold fnX4_performAtAddress; (try dsimp only); rw [if_neg h1]; rw [if_neg h3]; rw [if_neg h5]; rw [if_neg h7]; rw [if_neg h9]; rw [if_neg h11]; rw [if_neg h13]; rw [if_pos (rfl : (9 : Int32) = (9 : Int32))]; rw [← q16]; (try dsimp only); (try exact rfl))
  by_cases h17 : a0 = (10 : Int32)
  · refine lv_tableIn (off := 160) (tgt := 165) hx hb dX4_performAtAddress_5 (by rw [h17]; decide) (by rw [h17]; decide) (by rw [h17]; decide) (by decide) ?_
    subst h17
    refine lv_aload_n hx hb dX4_performAtAddress_165 rfl (lv_at hl 1 rfl) ?_
    refine lv_aload_n hx hb dX4_performAtAddress_166 rfl (lv_at hl 1 rfl) ?_
    refine va_get (D := D) (ci := 4) (v := .long (x.1.2)) hx hb hG inX4 hown hK hP 0 rfl rfl 2 (by decide) (hG _ kw91) (fun _ h9 => h9) rfl dX4_performAtAddress_167 ?_
    refine kFi (As := [.long (x.1.2)]) (rest := []) hx hb hml hown hG hl (okX4_put l D cI cJ cP ad H.size x x.1.2 hI hI.1.2) (cV 1 hG kw164 kw165 kw166 kw167 kw5 hdX4_put ⟨by decide, by decide⟩) 0 4 rfl rfl hK hP hD hS hA hN rfl rfl (Nat.le_of_ble_eq_true rfl) dX4_performAtAddress_170 ⟨Nat.zero_le _, Nat.zero_le _⟩ (fun r18 u18 q18 H locs hP hD hS => ?_)
    have j18 : ivX4_putP (r18, u18) := by rw [q18]; exact ivX4_put x x.1.2 hI hI.1.2
    exact reti (u := u18) hx hb hr hlocks hK hP hD hS dX4_performAtAddress_173 (by unfold fnX4_performAtAddress; (try dsimp only); rw [if_neg h1]; rw [if_neg h3]; rw [if_neg h5]; rw [if_neg h7]; rw [if_neg h9]; rw [if_neg h11]; rw [if_neg h13]; rw [if_neg h15]; rw [if_pos (rfl : (10 : Int32) = (10 : Int32))]; rw [← q18]; (try dsimp only); (try exact rfl))
  by_cases h19 : a0 = (11 : Int32)
  · refine lv_tableIn (off := 169) (tgt := 174) hx hb dX4_performAtAddress_5 (by rw [h19]; decide) (by rw [h19]; decide) (by rw [h19]; decide) (by decide) ?_
    subst h19
    refine lv_aload_n hx hb dX4_performAtAddress_174 rfl (lv_at hl 1 rfl) ?_
    refine kFi (As := []) (rest := []) hx hb hml hown hG hl (okX4_addOne l D cI cJ cP ad H.size x hI) (cV 0 hG kw172 kw173 kw174 kw175 kw5 hdX4_addOne ⟨by decide, by decide⟩) 0 4 rfl rfl hK hP hD hS hA hN rfl rfl (Nat.le_of_ble_eq_true rfl) dX4_performAtAddress_175 ⟨Nat.zero_le _, Nat.zero_le _⟩ (fun r20 u20 q20 H locs hP hD hS => ?_)
    have j20 : ivX4_addOneP (r20, u20) := by rw [q20]; exact ivX4_addOne x hI
    exact reti (u := u20) hx hb hr hlocks hK hP hD hS dX4_performAtAddress_178 (by unfold fnX4_performAtAddress; (try dsimp only); rw [if_neg h1]; rw [if_neg h3]; rw [if_neg h5]; rw [if_neg h7]; rw [if_neg h9]; rw [if_neg h11]; rw [if_neg h13]; rw [if_neg h15]; rw [if_neg h17]; rw [if_pos (rfl : (11 : Int32) = (11 : Int32))]; rw [← q20]; (try dsimp only); (try exact rfl))
  by_cases h21 : a0 = (12 : Int32)
  · refine lv_tableIn (off := 312) (tgt := 317) hx hb dX4_performAtAddress_5 (by rw [h21]; decide) (by rw [h21]; decide) (by rw [h21]; decide) (by decide) ?_
    subst h21
    refine lv_aload_n hx hb dX4_performAtAddress_317 rfl (lv_at hl 1 rfl) ?_
    refine lv_iload_n hx hb dX4_performAtAddress_318 rfl (lv_at hl 2 rfl) ?_
    refine kFi (As := [.int ((12 : Int32))]) (rest := []) hx hb hml hown hG hl (okX4_load l D cI cJ cP ad H.size x (12 : Int32) hI) (cV 1 hG kw168 kw169 kw170 kw171 kw5 hdX4_load ⟨by decide, by decide⟩) 0 4 rfl rfl hK hP hD hS hA hN rfl rfl (Nat.le_of_ble_eq_true rfl) dX4_performAtAddress_319 ⟨Nat.zero_le _, Nat.zero_le _⟩ (fun r22 u22 q22 H locs hP hD hS => ?_)
    have j22 : ivX4_loadP (r22, u22) := by rw [q22]; exact ivX4_load x (12 : Int32) hI
    exact reti (u := u22) hx hb hr hlocks hK hP hD hS dX4_performAtAddress_322 (by unfold fnX4_performAtAddress; (try dsimp only); rw [if_neg h1]; rw [if_neg h3]; rw [if_neg h5]; rw [if_neg h7]; rw [if_neg h9]; rw [if_neg h11]; rw [if_neg h13]; rw [if_neg h15]; rw [if_neg h17]; rw [if_neg h19]; rw [if_pos (rfl : (12 : Int32) = (12 : Int32))]; rw [← q22]; (try dsimp only); (try exact rfl))
  by_cases h23 : a0 = (13 : Int32)
  · refine lv_tableIn (off := 312) (tgt := 317) hx hb dX4_performAtAddress_5 (by rw [h23]; decide) (by rw [h23]; decide) (by rw [h23]; decide) (by decide) ?_
    subst h23
    refine lv_aload_n hx hb dX4_performAtAddress_317 rfl (lv_at hl 1 rfl) ?_
    refine lv_iload_n hx hb dX4_performAtAddress_318 rfl (lv_at hl 2 rfl) ?_
    refine kFi (As := [.int ((13 : Int32))]) (rest := []) hx hb hml hown hG hl (okX4_load l D cI cJ cP ad H.size x (13 : Int32) hI) (cV 1 hG kw168 kw169 kw170 kw171 kw5 hdX4_load ⟨by decide, by decide⟩) 0 4 rfl rfl hK hP hD hS hA hN rfl rfl (Nat.le_of_ble_eq_true rfl) dX4_performAtAddress_319 ⟨Nat.zero_le _, Nat.zero_le _⟩ (fun r24 u24 q24 H locs hP hD hS => ?_)
    have j24 : ivX4_loadP (r24, u24) := by rw [q24]; exact ivX4_load x (13 : Int32) hI
    exact reti (u := u24) hx hb hr hlocks hK hP hD hS dX4_performAtAddress_322 (by unfold fnX4_performAtAddress; (try dsimp only); rw [if_neg h1]; rw [if_neg h3]; rw [if_neg h5]; rw [if_neg h7]; rw [if_neg h9]; rw [if_neg h11]; rw [if_neg h13]; rw [if_neg h15]; rw [if_neg h17]; rw [if_neg h19]; rw [if_neg h21]; rw [if_pos (rfl : (13 : Int32) = (13 : Int32))]; rw [← q24]; (try dsimp only); (try exact rfl))
  by_cases h25 : a0 = (14 : Int32)
  · refine lv_tableIn (off := 312) (tgt := 317) hx hb dX4_performAtAddress_5 (by rw [h25]; decide) (by rw [h25]; decide) (by rw [h25]; decide) (by decide) ?_
    subst h25
    refine lv_aload_n hx hb dX4_performAtAddress_317 rfl (lv_at hl 1 rfl) ?_
    refine lv_iload_n hx hb dX4_performAtAddress_318 rfl (lv_at hl 2 rfl) ?_
    refine kFi (As := [.int ((14 : Int32))]) (rest := []) hx hb hml hown hG hl (okX4_load l D cI cJ cP ad H.size x (14 : Int32) hI) (cV 1 hG kw168 kw169 kw170 kw171 kw5 hdX4_load ⟨by decide, by decide⟩) 0 4 rfl rfl hK hP hD hS hA hN rfl rfl (Nat.le_of_ble_eq_true rfl) dX4_performAtAddress_319 ⟨Nat.zero_le _, Nat.zero_le _⟩ (fun r26 u26 q26 H locs hP hD hS => ?_)
    have j26 : ivX4_loadP (r26, u26) := by rw [q26]; exact ivX4_load x (14 : Int32) hI
    exact reti (u := u26) hx hb hr hlocks hK hP hD hS dX4_performAtAddress_322 (by unfold fnX4_performAtAddress; (try dsimp only); rw [if_neg h1]; rw [if_neg h3]; rw [if_neg h5]; rw [if_neg h7]; rw [if_neg h9]; rw [if_neg h11]; rw [if_neg h13]; rw [if_neg h15]; rw [if_neg h17]; rw [if_neg h19]; rw [if_neg h21]; rw [if_neg h23]; rw [if_pos (rfl : (14 : Int32) = (14 : Int32))]; rw [← q26]; (try dsimp only); (try exact rfl))
  by_cases h27 : a0 = (15 : Int32)
  · refine lv_tableIn (off := 312) (tgt := 317) hx hb dX4_performAtAddress_5 (by rw [h27]; decide) (by rw [h27]; decide) (by rw [h27]; decide) (by decide) ?_
    subst h27
    refine lv_aload_n hx hb dX4_performAtAddress_317 rfl (lv_at hl 1 rfl) ?_
    refine lv_iload_n hx hb dX4_performAtAddress_318 rfl (lv_at hl 2 rfl) ?_
    refine kFi (As := [.int ((15 : Int32))]) (rest := []) hx hb hml hown hG hl (okX4_load l D cI cJ cP ad H.size x (15 : Int32) hI) (cV 1 hG kw168 kw169 kw170 kw171 kw5 hdX4_load ⟨by decide, by decide⟩) 0 4 rfl rfl hK hP hD hS hA hN rfl rfl (Nat.le_of_ble_eq_true rfl) dX4_performAtAddress_319 ⟨Nat.zero_le _, Nat.zero_le _⟩ (fun r28 u28 q28 H locs hP hD hS => ?_)
    have j28 : ivX4_loadP (r28, u28) := by rw [q28]; exact ivX4_load x (15 : Int32) hI
    exact reti (u := u28) hx hb hr hlocks hK hP hD hS dX4_performAtAddress_322 (by unfold fnX4_performAtAddress; (try dsimp only); rw [if_neg h1]; rw [if_neg h3]; rw [if_neg h5]; rw [if_neg h7]; rw [if_neg h9]; rw [if_neg h11]; rw [if_neg h13]; rw [if_neg h15]; rw [if_neg h17]; rw [if_neg h19]; rw [if_neg h21]; rw [if_neg h23]; rw [if_neg h25]; rw [if_pos (rfl : (15 : Int32) = (15 : Int32))]; rw [← q28]; (try dsimp only); (try exact rfl))
  by_cases h29 : a0 = (16 : Int32)
  · refine lv_tableIn (off := 174) (tgt := 179) hx hb dX4_performAtAddress_5 (by rw [h29]; decide) (by rw [h29]; decide) (by rw [h29]; decide) (by decide) ?_
    subst h29
    refine lv_aload_n hx hb dX4_performAtAddress_179 rfl (lv_at hl 1 rfl) ?_
    refine lv_aload_n hx hb dX4_performAtAddress_180 rfl (lv_at hl 1 rfl) ?_
    refine va_get (D := D) (ci := 4) (v := .ref (ad 13)) hx hb hG inX4 hown hK hP 0 rfl rfl 3 (by decide) (hG _ kw134) (fun _ h9 => h9) rfl dX4_performAtAddress_181 ?_
    refine lv_iload_n hx hb dX4_performAtAddress_184 rfl (lv_at hl 0 rfl) ?_
    refine gi (D := D) (j := 0) (f := x.2.2.1) hx hb hK hP 13 0 rfl rfl (inL (by decide)) (by decide) dX4_performAtAddress_185 ?_
    refine lv_i2l hx hb dX4_performAtAddress_186 rfl ?_
    refine kFi (As := [.long (((x.2.2.1 0)).toInt64)]) (rest := []) hx hb hml hown hG hl (okX4_put l D cI cJ cP ad H.size x (((x.2.2.1 0)).toInt64) hI (i2lW (hI.2.2.1 0))) (cV 1 hG kw164 kw165 kw166 kw167 kw5 hdX4_put ⟨by decide, by decide⟩) 0 4 rfl rfl hK hP hD hS hA hN rfl rfl (Nat.le_of_ble_eq_true rfl) dX4_performAtAddress_187 ⟨Nat.zero_le _, Nat.zero_le _⟩ (fun r30 u30 q30 H locs hP hD hS => ?_)
    have j30 : ivX4_putP (r30, u30) := by rw [q30]; exact ivX4_put x (((x.2.2.1 0)).toInt64) hI (i2lW (hI.2.2.1 0))
    exact reti (u := u30) hx hb hr hlocks hK hP hD hS dX4_performAtAddress_190 (by unfold fnX4_performAtAddress; (try dsimp only); rw [if_neg h1]; rw [if_neg h3]; rw [if_neg h5]; rw [if_neg h7]; rw [if_neg h9]; rw [if_neg h11]; rw [if_neg h13]; rw [if_neg h15]; rw [if_neg h17]; rw [if_neg h19]; rw [if_neg h21]; rw [if_neg h23]; rw [if_neg h25]; rw [if_neg h27]; rw [if_pos (rfl : (16 : Int32) = (16 : Int32))]; rw [← q30]; (try dsimp only); (try exact rfl))
  by_cases h31 : a0 = (17 : Int32)
  · refine lv_tableIn (off := 174) (tgt := 179) hx hb dX4_performAtAddress_5 (by rw [h31]; decide) (by rw [h31]; decide) (by rw [h31]; decide) (by decide) ?_
    subst h31
    refine lv_aload_n hx hb dX4_performAtAddress_179 rfl (lv_at hl 1 rfl) ?_
    refine lv_aload_n hx hb dX4_performAtAddress_180 rfl (lv_at hl 1 rfl) ?_
    refine va_get (D := D) (ci := 4) (v := .ref (ad 13)) hx hb hG inX4 hown hK hP 0 rfl rfl 3 (by decide) (hG _ kw134) (fun _ h9 => h9) rfl dX4_performAtAddress_181 ?_
    refine lv_iload_n hx hb dX4_performAtAddress_184 rfl (lv_at hl 0 rfl) ?_
    refine gi (D := D) (j := 1) (f := x.2.2.1) hx hb hK hP 13 0 rfl rfl (inL (by decide)) (by decide) dX4_performAtAddress_185 ?_
    refine lv_i2l hx hb dX4_performAtAddress_186 rfl ?_
    refine kFi (As := [.long (((x.2.2.1 1)).toInt64)]) (rest := []) hx hb hml hown hG hl (okX4_put l D cI cJ cP ad H.size x (((x.2.2.1 1)).toInt64) hI (i2lW (hI.2.2.1 1))) (cV 1 hG kw164 kw165 kw166 kw167 kw5 hdX4_put ⟨by decide, by decide⟩) 0 4 rfl rfl hK hP hD hS hA hN rfl rfl (Nat.le_of_ble_eq_true rfl) dX4_performAtAddress_187 ⟨Nat.zero_le _, Nat.zero_le _⟩ (fun r32 u32 q32 H locs hP hD hS => ?_)
    have j32 : ivX4_putP (r32, u32) := by rw [q32]; exact ivX4_put x (((x.2.2.1 1)).toInt64) hI (i2lW (hI.2.2.1 1))
    exact reti (u := u32) hx hb hr hlocks hK hP hD hS dX4_performAtAddress_190 (by unfold fnX4_performAtAddress; (try dsimp only); rw [if_neg h1]; rw [if_neg h3]; rw [if_neg h5]; rw [if_neg h7]; rw [if_neg h9]; rw [if_neg h11]; rw [if_neg h13]; rw [if_neg h15]; rw [if_neg h17]; rw [if_neg h19]; rw [if_neg h21]; rw [if_neg h23]; rw [if_neg h25]; rw [if_neg h27]; rw [if_neg h29]; rw [if_pos (rfl : (17 : Int32) = (17 : Int32))]; rw [← q32]; (try dsimp only); (try exact rfl))
  by_cases h33 : a0 = (18 : Int32)
  · refine lv_tableIn (off := 174) (tgt := 179) hx hb dX4_performAtAddress_5 (by rw [h33]; decide) (by rw [h33]; decide) (by rw [h33]; decide) (by decide) ?_
    subst h33
    refine lv_aload_n hx hb dX4_performAtAddress_179 rfl (lv_at hl 1 rfl) ?_
    refine lv_aload_n hx hb dX4_performAtAddress_180 rfl (lv_at hl 1 rfl) ?_
    refine va_get (D := D) (ci := 4) (v := .ref (ad 13)) hx hb hG inX4 hown hK hP 0 rfl rfl 3 (by decide) (hG _ kw134) (fun _ h9 => h9) rfl dX4_performAtAddress_181 ?_
    refine lv_iload_n hx hb dX4_performAtAddress_184 rfl (lv_at hl 0 rfl) ?_
    refine gi (D := D) (j := 2) (f := x.2.2.1) hx hb hK hP 13 0 rfl rfl (inL (by decide)) (by decide) dX4_performAtAddress_185 ?_
    refine lv_i2l hx hb dX4_performAtAddress_186 rfl ?_
    refine kFi (As := [.long (((x.2.2.1 2)).toInt64)]) (rest := []) hx hb hml hown hG hl (okX4_put l D cI cJ cP ad H.size x (((x.2.2.1 2)).toInt64) hI (i2lW (hI.2.2.1 2))) (cV 1 hG kw164 kw165 kw166 kw167 kw5 hdX4_put ⟨by decide, by decide⟩) 0 4 rfl rfl hK hP hD hS hA hN rfl rfl (Nat.le_of_ble_eq_true rfl) dX4_performAtAddress_187 ⟨Nat.zero_le _, Nat.zero_le _⟩ (fun r34 u34 q34 H locs hP hD hS => ?_)
    have j34 : ivX4_putP (r34, u34) := by rw [q34]; exact ivX4_put x (((x.2.2.1 2)).toInt64) hI (i2lW (hI.2.2.1 2))
    exact reti (u := u34) hx hb hr hlocks hK hP hD hS dX4_performAtAddress_190 (by unfold fnX4_performAtAddress; (try dsimp only); rw [if_neg h1]; rw [if_neg h3]; rw [if_neg h5]; rw [if_neg h7]; rw [if_neg h9]; rw [if_neg h11]; rw [if_neg h13]; rw [if_neg h15]; rw [if_neg h17]; rw [if_neg h19]; rw [if_neg h21]; rw [if_neg h23]; rw [if_neg h25]; rw [if_neg h27]; rw [if_neg h29]; rw [if_neg h31]; rw [if_pos (rfl : (18 : Int32) = (18 : Int32))]; rw [← q34]; (try dsimp only); (try exact rfl))
  by_cases h35 : a0 = (19 : Int32)
  · refine lv_tableIn (off := 174) (tgt := 179) hx hb dX4_performAtAddress_5 (by rw [h35]; decide) (by rw [h35]; decide) (by rw [h35]; decide) (by decide) ?_
    subst h35
    refine lv_aload_n hx hb dX4_performAtAddress_179 rfl (lv_at hl 1 rfl) ?_
    refine lv_aload_n hx hb dX4_performAtAddress_180 rfl (lv_at hl 1 rfl) ?_
    refine va_get (D := D) (ci := 4) (v := .ref (ad 13)) hx hb hG inX4 hown hK hP 0 rfl rfl 3 (by decide) (hG _ kw134) (fun _ h9 => h9) rfl dX4_performAtAddress_181 ?_
    refine lv_iload_n hx hb dX4_performAtAddress_184 rfl (lv_at hl 0 rfl) ?_
    refine gi (D := D) (j := 3) (f := x.2.2.1) hx hb hK hP 13 0 rfl rfl (inL (by decide)) (by decide) dX4_performAtAddress_185 ?_
    refine lv_i2l hx hb dX4_performAtAddress_186 rfl ?_
    refine kFi (As := [.long (((x.2.2.1 3)).toInt64)]) (rest := []) hx hb hml hown hG hl (okX4_put l D cI cJ cP ad H.size x (((x.2.2.1 3)).toInt64) hI (i2lW (hI.2.2.1 3))) (cV 1 hG kw164 kw165 kw166 kw167 kw5 hdX4_put ⟨by decide, by decide⟩) 0 4 rfl rfl hK hP hD hS hA hN rfl rfl (Nat.le_of_ble_eq_true rfl) dX4_performAtAddress_187 ⟨Nat.zero_le _, Nat.zero_le _⟩ (fun r36 u36 q36 H locs hP hD hS => ?_)
    have j36 : ivX4_putP (r36, u36) := by rw [q36]; exact ivX4_put x (((x.2.2.1 3)).toInt64) hI (i2lW (hI.2.2.1 3))
    exact reti (u := u36) hx hb hr hlocks hK hP hD hS dX4_performAtAddress_190 (by unfold fnX4_performAtAddress; (try dsimp only); rw [if_neg h1]; rw [if_neg h3]; rw [if_neg h5]; rw [if_neg h7]; rw [if_neg h9]; rw [if_neg h11]; rw [if_neg h13]; rw [if_neg h15]; rw [if_neg h17]; rw [if_neg h19]; rw [if_neg h21]; rw [if_neg h23]; rw [if_neg h25]; rw [if_neg h27]; rw [if_neg h29]; rw [if_neg h31]; rw [if_neg h33]; rw [if_pos (rfl : (19 : Int32) = (19 : Int32))]; rw [← q36]; (try dsimp only); (try exact rfl))
  by_cases h37 : a0 = (20 : Int32)
  · refine lv_tableIn (off := 200) (tgt := 205) hx hb dX4_performAtAddress_5 (by rw [h37]; decide) (by rw [h37]; decide) (by rw [h37]; decide) (by decide) ?_
    subst h37
    refine lv_aload_n hx hb dX4_performAtAddress_205 rfl (lv_at hl 1 rfl) ?_
    refine lv_iconst (v := 1) hx hb dX4_performAtAddress_206 (by decide) ?_
    refine kFi (As := [.int ((1 : Int32))]) (rest := []) hx hb hml hown hG hl (okX4_transfer l D cI cJ cP ad H.size x (1 : Int32) hI) (cV 1 hG kw176 kw177 kw178 kw179 kw5 hdX4_transfer ⟨by decide, by decide⟩) 0 4 rfl rfl hK hP hD hS hA hN rfl rfl (Nat.le_of_ble_eq_true rfl) dX4_performAtAddress_207 ⟨Nat.zero_le _, Nat.zero_le _⟩ (fun r38 u38 q38 H locs hP hD hS => ?_)
    have j38 : ivX4_transferP (r38, u38) := by rw [q38]; exact ivX4_transfer x (1 : Int32) hI
    exact reti (u := u38) hx hb hr hlocks hK hP hD hS dX4_performAtAddress_210 (by unfold fnX4_performAtAddress; (try dsimp only); rw [if_neg h1]; rw [if_neg h3]; rw [if_neg h5]; rw [if_neg h7]; rw [if_neg h9]; rw [if_neg h11]; rw [if_neg h13]; rw [if_neg h15]; rw [if_neg h17]; rw [if_neg h19]; rw [if_neg h21]; rw [if_neg h23]; rw [if_neg h25]; rw [if_neg h27]; rw [if_neg h29]; rw [if_neg h31]; rw [if_neg h33]; rw [if_neg h35]; rw [if_pos (rfl : (20 : Int32) = (20 : Int32))]; rw [← q38]; (try dsimp only); (try exact rfl))
  by_cases h39 : a0 = (21 : Int32)
  · refine lv_tableIn (off := 206) (tgt := 211) hx hb dX4_performAtAddress_5 (by rw [h39]; decide) (by rw [h39]; decide) (by rw [h39]; decide) (by decide) ?_
    subst h39
    refine lv_aload_n hx hb dX4_performAtAddress_211 rfl (lv_at hl 1 rfl) ?_
    refine lv_aload_n hx hb dX4_performAtAddress_212 rfl (lv_at hl 1 rfl) ?_
    refine va_get (D := D) (ci := 4) (v := .long (x.1.1)) hx hb hG inX4 hown hK hP 0 rfl rfl 1 (by decide) (hG _ kw90) (fun _ h9 => h9) rfl dX4_performAtAddress_213 ?_
    refine lv_lconst (v := 0) hx hb dX4_performAtAddress_216 (by decide) ?_
    refine lq_ne (tgt := 225) hx hb dX4_performAtAddress_217 dX4_performAtAddress_218 (by decide) (fun h40 => ?_) (fun h40 => ?_)
    · refine lv_iconst (v := 0) hx hb dX4_performAtAddress_225 (by decide) ?_
      refine kFi (As := [.int ((0 : Int32))]) (rest := []) hx hb hml hown hG hl (okX4_transfer l D cI cJ cP ad H.size x (0 : Int32) hI) (cV 1 hG kw176 kw177 kw178 kw179 kw5 hdX4_transfer ⟨by decide, by decide⟩) 0 4 rfl rfl hK hP hD hS hA hN rfl rfl (Nat.le_of_ble_eq_true rfl) dX4_performAtAddress_226 ⟨Nat.zero_le _, Nat.zero_le _⟩ (fun r41 u41 q41 H locs hP hD hS => ?_)
      have j41 : ivX4_transferP (r41, u41) := by rw [q41]; exact ivX4_transfer x (0 : Int32) hI
      exact reti (u := u41) hx hb hr hlocks hK hP hD hS dX4_performAtAddress_229 (by unfold fnX4_performAtAddress; (try dsimp only); rw [if_neg h1]; rw [if_neg h3]; rw [if_neg h5]; rw [if_neg h7]; rw [if_neg h9]; rw [if_neg h11]; rw [if_neg h13]; rw [if_neg h15]; rw [if_neg h17]; rw [if_neg h19]; rw [if_neg h21]; rw [if_neg h23]; rw [if_neg h25]; rw [if_neg h27]; rw [if_neg h29]; rw [if_neg h31]; rw [if_neg h33]; rw [if_neg h35]; rw [if_neg h37]; rw [if_pos (rfl : (21 : Int32) = (21 : Int32))]; rw [if_neg h40]; rw [← q41]; (try dsimp only); (try exact rfl))
    · refine lv_iconst (v := 1) hx hb dX4_performAtAddress_221 (by decide) ?_
      refine lv_goto (tgt := 226) hx hb dX4_performAtAddress_222 (by decide) ?_
      refine kFi (As := [.int ((1 : Int32))]) (rest := []) hx hb hml hown hG hl (okX4_transfer l D cI cJ cP ad H.size x (1 : Int32) hI) (cV 1 hG kw176 kw177 kw178 kw179 kw5 hdX4_transfer ⟨by decide, by decide⟩) 0 4 rfl rfl hK hP hD hS hA hN rfl rfl (Nat.le_of_ble_eq_true rfl) dX4_performAtAddress_226 ⟨Nat.zero_le _, Nat.zero_le _⟩ (fun r42 u42 q42 H locs hP hD hS => ?_)
      have j42 : ivX4_transferP (r42, u42) := by rw [q42]; exact ivX4_transfer x (1 : Int32) hI
      exact reti (u := u42) hx hb hr hlocks hK hP hD hS dX4_performAtAddress_229 (by unfold fnX4_performAtAddress; (try dsimp only); rw [if_neg h1]; rw [if_neg h3]; rw [if_neg h5]; rw [if_neg h7]; rw [if_neg h9]; rw [if_neg h11]; rw [if_neg h13]; rw [if_neg h15]; rw [if_neg h17]; rw [if_neg h19]; rw [if_neg h21]; rw [if_neg h23]; rw [if_neg h25]; rw [if_neg h27]; rw [if_neg h29]; rw [if_neg h31]; rw [if_neg h33]; rw [if_neg h35]; rw [if_neg h37]; rw [if_pos (rfl : (21 : Int32) = (21 : Int32))]; rw [if_pos h40]; rw [← q42]; (try dsimp only); (try exact rfl))
  by_cases h43 : a0 = (22 : Int32)
  · refine lv_tableIn (off := 225) (tgt := 230) hx hb dX4_performAtAddress_5 (by rw [h43]; decide) (by rw [h43]; decide) (by rw [h43]; decide) (by decide) ?_
    subst h43
    refine lv_aload_n hx hb dX4_performAtAddress_230 rfl (lv_at hl 1 rfl) ?_
    refine lv_aload_n hx hb dX4_performAtAddress_231 rfl (lv_at hl 1 rfl) ?_
    refine va_get (D := D) (ci := 4) (v := .long (x.1.1)) hx hb hG inX4 hown hK hP 0 rfl rfl 1 (by decide) (hG _ kw90) (fun _ h9 => h9) rfl dX4_performAtAddress_232 ?_
    refine lv_lconst (v := 0) hx hb dX4_performAtAddress_235 (by decide) ?_
    refine lq_eq (tgt := 244) hx hb dX4_performAtAddress_236 dX4_performAtAddress_237 (by decide) (fun h44 => ?_) (fun h44 => ?_)
    · refine lv_iconst (v := 0) hx hb dX4_performAtAddress_244 (by decide) ?_
      refine kFi (As := [.int ((0 : Int32))]) (rest := []) hx hb hml hown hG hl (okX4_transfer l D cI cJ cP ad H.size x (0 : Int32) hI) (cV 1 hG kw176 kw177 kw178 kw179 kw5 hdX4_transfer ⟨by decide, by decide⟩) 0 4 rfl rfl hK hP hD hS hA hN rfl rfl (Nat.le_of_ble_eq_true rfl) dX4_performAtAddress_245 ⟨Nat.zero_le _, Nat.zero_le _⟩ (fun r45 u45 q45 H locs hP hD hS => ?_)
      have j45 : ivX4_transferP (r45, u45) := by rw [q45]; exact ivX4_transfer x (0 : Int32) hI
      exact reti (u := u45) hx hb hr hlocks hK hP hD hS dX4_performAtAddress_248 (by unfold fnX4_performAtAddress; (try dsimp only); rw [if_neg h1]; rw [if_neg h3]; rw [if_neg h5]; rw [if_neg h7]; rw [if_neg h9]; rw [if_neg h11]; rw [if_neg h13]; rw [if_neg h15]; rw [if_neg h17]; rw [if_neg h19]; rw [if_neg h21]; rw [if_neg h23]; rw [if_neg h25]; rw [if_neg h27]; rw [if_neg h29]; rw [if_neg h31]; rw [if_neg h33]; rw [if_neg h35]; rw [if_neg h37]; rw [if_neg h39]; rw [if_pos (rfl : (22 : Int32) = (22 : Int32))]; rw [if_pos h44]; rw [← q45]; (try dsimp only); (try exact rfl))
    · refine lv_iconst (v := 1) hx hb dX4_performAtAddress_240 (by decide) ?_
      refine lv_goto (tgt := 245) hx hb dX4_performAtAddress_241 (by decide) ?_
      refine kFi (As := [.int ((1 : Int32))]) (rest := []) hx hb hml hown hG hl (okX4_transfer l D cI cJ cP ad H.size x (1 : Int32) hI) (cV 1 hG kw176 kw177 kw178 kw179 kw5 hdX4_transfer ⟨by decide, by decide⟩) 0 4 rfl rfl hK hP hD hS hA hN rfl rfl (Nat.le_of_ble_eq_true rfl) dX4_performAtAddress_245 ⟨Nat.zero_le _, Nat.zero_le _⟩ (fun r46 u46 q46 H locs hP hD hS => ?_)
      have j46 : ivX4_transferP (r46, u46) := by rw [q46]; exact ivX4_transfer x (1 : Int32) hI
      exact reti (u := u46) hx hb hr hlocks hK hP hD hS dX4_performAtAddress_248 (by unfold fnX4_performAtAddress; (try dsimp only); rw [if_neg h1]; rw [if_neg h3]; rw [if_neg h5]; rw [if_neg h7]; rw [if_neg h9]; rw [if_neg h11]; rw [if_neg h13]; rw [if_neg h15]; rw [if_neg h17]; rw [if_neg h19]; rw [if_neg h21]; rw [if_neg h23]; rw [if_neg h25]; rw [if_neg h27]; rw [if_neg h29]; rw [if_neg h31]; rw [if_neg h33]; rw [if_neg h35]; rw [if_neg h37]; rw [if_neg h39]; rw [if_pos (rfl : (22 : Int32) = (22 : Int32))]; rw [if_neg h44]; rw [← q46]; (try dsimp only); (try exact rfl))
  by_cases h47 : a0 = (23 : Int32)
  · refine lv_tableIn (off := 244) (tgt := 249) hx hb dX4_performAtAddress_5 (by rw [h47]; decide) (by rw [h47]; decide) (by rw [h47]; decide) (by decide) ?_
    subst h47
    refine lv_aload_n hx hb dX4_performAtAddress_249 rfl (lv_at hl 1 rfl) ?_
    refine lv_aload_n hx hb dX4_performAtAddress_250 rfl (lv_at hl 1 rfl) ?_
    refine va_get (D := D) (ci := 4) (v := .long (x.1.1)) hx hb hG inX4 hown hK hP 0 rfl rfl 1 (by decide) (hG _ kw90) (fun _ h9 => h9) rfl dX4_performAtAddress_251 ?_
    refine lv_ldc2 (v := 34359738368) hx hb hown (hG _ kw180) dX4_performAtAddress_254 ?_
    refine lv_land hx hb dX4_performAtAddress_257 ?_
    refine lv_lconst (v := 0) hx hb dX4_performAtAddress_258 (by decide) ?_
    refine lq_eq (tgt := 267) hx hb dX4_performAtAddress_259 dX4_performAtAddress_260 (by decide) (fun h48 => ?_) (fun h48 => ?_)
    · refine lv_iconst (v := 0) hx hb dX4_performAtAddress_267 (by decide) ?_
      refine kFi (As := [.int ((0 : Int32))]) (rest := []) hx hb hml hown hG hl (okX4_transfer l D cI cJ cP ad H.size x (0 : Int32) hI) (cV 1 hG kw176 kw177 kw178 kw179 kw5 hdX4_transfer ⟨by decide, by decide⟩) 0 4 rfl rfl hK hP hD hS hA hN rfl rfl (Nat.le_of_ble_eq_true rfl) dX4_performAtAddress_268 ⟨Nat.zero_le _, Nat.zero_le _⟩ (fun r49 u49 q49 H locs hP hD hS => ?_)
      have j49 : ivX4_transferP (r49, u49) := by rw [q49]; exact ivX4_transfer x (0 : Int32) hI
      exact reti (u := u49) hx hb hr hlocks hK hP hD hS dX4_performAtAddress_271 (by unfold fnX4_performAtAddress; (try dsimp only); rw [if_neg h1]; rw [if_neg h3]; rw [if_neg h5]; rw [if_neg h7]; rw [if_neg h9]; rw [if_neg h11]; rw [if_neg h13]; rw [if_neg h15]; rw [if_neg h17]; rw [if_neg h19]; rw [if_neg h21]; rw [if_neg h23]; rw [if_neg h25]; rw [if_neg h27]; rw [if_neg h29]; rw [if_neg h31]; rw [if_neg h33]; rw [if_neg h35]; rw [if_neg h37]; rw [if_neg h39]; rw [if_neg h43]; rw [if_pos (rfl : (23 : Int32) = (23 : Int32))]; rw [if_pos h48]; rw [← q49]; (try dsimp only); (try exact rfl))
    · refine lv_iconst (v := 1) hx hb dX4_performAtAddress_263 (by decide) ?_
      refine lv_goto (tgt := 268) hx hb dX4_performAtAddress_264 (by decide) ?_
      refine kFi (As := [.int ((1 : Int32))]) (rest := []) hx hb hml hown hG hl (okX4_transfer l D cI cJ cP ad H.size x (1 : Int32) hI) (cV 1 hG kw176 kw177 kw178 kw179 kw5 hdX4_transfer ⟨by decide, by decide⟩) 0 4 rfl rfl hK hP hD hS hA hN rfl rfl (Nat.le_of_ble_eq_true rfl) dX4_performAtAddress_268 ⟨Nat.zero_le _, Nat.zero_le _⟩ (fun r50 u50 q50 H locs hP hD hS => ?_)
      have j50 : ivX4_transferP (r50, u50) := by rw [q50]; exact ivX4_transfer x (1 : Int32) hI
      exact reti (u := u50) hx hb hr hlocks hK hP hD hS dX4_performAtAddress_271 (by unfold fnX4_performAtAddress; (try dsimp only); rw [if_neg h1]; rw [if_neg h3]; rw [if_neg h5]; rw [if_neg h7]; rw [if_neg h9]; rw [if_neg h11]; rw [if_neg h13]; rw [if_neg h15]; rw [if_neg h17]; rw [if_neg h19]; rw [if_neg h21]; rw [if_neg h23]; rw [if_neg h25]; rw [if_neg h27]; rw [if_neg h29]; rw [if_neg h31]; rw [if_neg h33]; rw [if_neg h35]; rw [if_neg h37]; rw [if_neg h39]; rw [if_neg h43]; rw [if_pos (rfl : (23 : Int32) = (23 : Int32))]; rw [if_neg h48]; rw [← q50]; (try dsimp only); (try exact rfl))
  by_cases h51 : a0 = (24 : Int32)
  · refine lv_tableIn (off := 267) (tgt := 272) hx hb dX4_performAtAddress_5 (by rw [h51]; decide) (by rw [h51]; decide) (by rw [h51]; decide) (by decide) ?_
    subst h51
    refine lv_aload_n hx hb dX4_performAtAddress_272 rfl (lv_at hl 1 rfl) ?_
    refine va_get (D := D) (ci := 4) (v := .ref (ad 14)) hx hb hG inX4 hown hK hP 0 rfl rfl 4 (by decide) (hG _ kw149) (fun _ h9 => h9) rfl dX4_performAtAddress_273 ?_
    refine lv_iload_n hx hb dX4_performAtAddress_276 rfl (lv_at hl 0 rfl) ?_
    refine gq (D := D) (j := 0) (x := ad 15) hx hb hK hP 14 2 rfl rfl (inL (by decide)) (by decide) rfl dX4_performAtAddress_277 ?_
    refine lv_aload_n hx hb dX4_performAtAddress_278 rfl (lv_at hl 1 rfl) ?_
    refine va_get (D := D) (ci := 4) (v := .ref (ad 12)) hx hb hG inX4 hown hK hP 0 rfl rfl 6 (by decide) (hG _ kw124) (fun _ h9 => h9) rfl dX4_performAtAddress_279 ?_
    refine kVv (As := [.ref (ad 12)]) (rest := []) (W' := (fun u52 => (wR cI cJ cP ad (x.1, x.2.1, x.2.2.1, (u52, x.2.2.2.1.2.1, x.2.2.2.1.2.2.1, x.2.2.2.1.2.2.2), x.2.2.2.2.1, x.2.2.2.2.2.1, x.2.2.2.2.2.2.1, x.2.2.2.2.2.2.2)))) hx hb hml hown hG hl (okX2_become l D cI cJ cP (ad 15) (ad 12) H.size x.2.2.2.1.1 x.2.2.2.2.2.1 hI.2.2.2.1.1 hI.2.2.2.2.2.1) (cV 1 hG kw98 kw100 kw101 kw102 kw99 hdX2_become ⟨by decide, by decide⟩) 15 2 rfl rfl hK hP hD hS hA hN [15, 12] rfl rfl rfl (fun _ => rfl) (fun _ => rfl) rfl rfl (Nat.le_of_ble_eq_true rfl) dX4_performAtAddress_282 ⟨Nat.zero_le _, Nat.zero_le _⟩ (fun u52 q52 H locs hP hD hS => ?_)
    have j52 : ivX2_becomeP u52 := by rw [q52]; exact ivX2_become x.2.2.2.1.1 x.2.2.2.2.2.1 hI.2.2.2.1.1 hI.2.2.2.2.2.1
    refine lv_aload_n hx hb dX4_performAtAddress_285 rfl (lv_at hl 1 rfl) ?_
    refine kFi (As := []) (rest := []) hx hb hml hown hG hl (okX4_advance l D cI cJ cP ad H.size (x.1, x.2.1, x.2.2.1, (u52, x.2.2.2.1.2.1, x.2.2.2.1.2.2.1, x.2.2.2.1.2.2.2), x.2.2.2.2.1, x.2.2.2.2.2.1, x.2.2.2.2.2.2.1, x.2.2.2.2.2.2.2) ⟨hI.1, hI.2.1, hI.2.2.1, ⟨j52, hI.2.2.2.1.2.1, hI.2.2.2.1.2.2.1, hI.2.2.2.1.2.2.2⟩, hI.2.2.2.2.1, hI.2.2.2.2.2.1, hI.2.2.2.2.2.2.1, hI.2.2.2.2.2.2.2⟩) (cV 0 hG kw92 kw93 kw94 kw95 kw5 hdX4_advance ⟨by decide, by decide⟩) 0 4 rfl rfl hK hP hD hS hA hN rfl rfl (Nat.le_of_ble_eq_true rfl) dX4_performAtAddress_286 ⟨Nat.zero_le _, Nat.zero_le _⟩ (fun r53 u53 q53 H locs hP hD hS => ?_)
    have j53 : ivX4_advanceP (r53, u53) := by rw [q53]; exact ivX4_advance (x.1, x.2.1, x.2.2.1, (u52, x.2.2.2.1.2.1, x.2.2.2.1.2.2.1, x.2.2.2.1.2.2.2), x.2.2.2.2.1, x.2.2.2.2.2.1, x.2.2.2.2.2.2.1, x.2.2.2.2.2.2.2) ⟨hI.1, hI.2.1, hI.2.2.1, ⟨j52, hI.2.2.2.1.2.1, hI.2.2.2.1.2.2.1, hI.2.2.2.1.2.2.2⟩, hI.2.2.2.2.1, hI.2.2.2.2.2.1, hI.2.2.2.2.2.2.1, hI.2.2.2.2.2.2.2⟩
    exact reti (u := u53) hx hb hr hlocks hK hP hD hS dX4_performAtAddress_289 (by unfold fnX4_performAtAddress; (try dsimp only); rw [if_neg h1]; rw [if_neg h3]; rw [if_neg h5]; rw [if_neg h7]; rw [if_neg h9]; rw [if_neg h11]; rw [if_neg h13]; rw [if_neg h15]; rw [if_neg h17]; rw [if_neg h19]; rw [if_neg h21]; rw [if_neg h23]; rw [if_neg h25]; rw [if_neg h27]; rw [if_neg h29]; rw [if_neg h31]; rw [if_neg h33]; rw [if_neg h35]; rw [if_neg h37]; rw [if_neg h39]; rw [if_neg h43]; rw [if_neg h47]; rw [if_pos (rfl : (24 : Int32) = (24 : Int32))]; rw [← q52]; (try dsimp only); rw [← q53]; (try dsimp only); (try exact rfl))
  by_cases h54 : a0 = (25 : Int32)
  · refine lv_tableIn (off := 267) (tgt := 272) hx hb dX4_performAtAddress_5 (by rw [h54]; decide) (by rw [h54]; decide) (by rw [h54]; decide) (by decide) ?_
    subst h54
    refine lv_aload_n hx hb dX4_performAtAddress_272 rfl (lv_at hl 1 rfl) ?_
    refine va_get (D := D) (ci := 4) (v := .ref (ad 14)) hx hb hG inX4 hown hK hP 0 rfl rfl 4 (by decide) (hG _ kw149) (fun _ h9 => h9) rfl dX4_performAtAddress_273 ?_
    refine lv_iload_n hx hb dX4_performAtAddress_276 rfl (lv_at hl 0 rfl) ?_
    refine gq (D := D) (j := 1) (x := ad 16) hx hb hK hP 14 2 rfl rfl (inL (by decide)) (by decide) rfl dX4_performAtAddress_277 ?_
    refine lv_aload_n hx hb dX4_performAtAddress_278 rfl (lv_at hl 1 rfl) ?_
    refine va_get (D := D) (ci := 4) (v := .ref (ad 12)) hx hb hG inX4 hown hK hP 0 rfl rfl 6 (by decide) (hG _ kw124) (fun _ h9 => h9) rfl dX4_performAtAddress_279 ?_
    refine kVv (As := [.ref (ad 12)]) (rest := []) (W' := (fun u55 => (wR cI cJ cP ad (x.1, x.2.1, x.2.2.1, (x.2.2.2.1.1, u55, x.2.2.2.1.2.2.1, x.2.2.2.1.2.2.2), x.2.2.2.2.1, x.2.2.2.2.2.1, x.2.2.2.2.2.2.1, x.2.2.2.2.2.2.2)))) hx hb hml hown hG hl (okX2_become l D cI cJ cP (ad 16) (ad 12) H.size x.2.2.2.1.2.1 x.2.2.2.2.2.1 hI.2.2.2.1.2.1 hI.2.2.2.2.2.1) (cV 1 hG kw98 kw100 kw101 kw102 kw99 hdX2_become ⟨by decide, by decide⟩) 16 2 rfl rfl hK hP hD hS hA hN [16, 12] rfl rfl rfl (fun _ => rfl) (fun _ => rfl) rfl rfl (Nat.le_of_ble_eq_true rfl) dX4_performAtAddress_282 ⟨Nat.zero_le _, Nat.zero_le _⟩ (fun u55 q55 H locs hP hD hS => ?_)
    have j55 : ivX2_becomeP u55 := by rw [q55]; exact ivX2_become x.2.2.2.1.2.1 x.2.2.2.2.2.1 hI.2.2.2.1.2.1 hI.2.2.2.2.2.1
    refine lv_aload_n hx hb dX4_performAtAddress_285 rfl (lv_at hl 1 rfl) ?_
    refine kFi (As := []) (rest := []) hx hb hml hown hG hl (okX4_advance l D cI cJ cP ad H.size (x.1, x.2.1, x.2.2.1, (x.2.2.2.1.1, u55, x.2.2.2.1.2.2.1, x.2.2.2.1.2.2.2), x.2.2.2.2.1, x.2.2.2.2.2.1, x.2.2.2.2.2.2.1, x.2.2.2.2.2.2.2) ⟨hI.1, hI.2.1, hI.2.2.1, ⟨hI.2.2.2.1.1, j55, hI.2.2.2.1.2.2.1, hI.2.2.2.1.2.2.2⟩, hI.2.2.2.2.1, hI.2.2.2.2.2.1, hI.2.2.2.2.2.2.1, hI.2.2.2.2.2.2.2⟩) (cV 0 hG kw92 kw93 kw94 kw95 kw5 hdX4_advance ⟨by decide, by decide⟩) 0 4 rfl rfl hK hP hD hS hA hN rfl rfl (Nat.le_of_ble_eq_true rfl) dX4_performAtAddress_286 ⟨Nat.zero_le _, Nat.zero_le _⟩ (fun r56 u56 q56 H locs hP hD hS => ?_)
    have j56 : ivX4_advanceP (r56, u56) := by rw [q56]; exact ivX4_advance (x.1, x.2.1, x.2.2.1, (x.2.2.2.1.1, u55, x.2.2.2.1.2.2.1, x.2.2.2.1.2.2.2), x.2.2.2.2.1, x.2.2.2.2.2.1, x.2.2.2.2.2.2.1, x.2.2.2.2.2.2.2) ⟨hI.1, hI.2.1, hI.2.2.1, ⟨hI.2.2.2.1.1, j55, hI.2.2.2.1.2.2.1, hI.2.2.2.1.2.2.2⟩, hI.2.2.2.2.1, hI.2.2.2.2.2.1, hI.2.2.2.2.2.2.1, hI.2.2.2.2.2.2.2⟩
    exact reti (u := u56) hx hb hr hlocks hK hP hD hS dX4_performAtAddress_289 (by unfold fnX4_performAtAddress; (try dsimp only); rw [if_neg h1]; rw [if_neg h3]; rw [if_neg h5]; rw [if_neg h7]; rw [if_neg h9]; rw [if_neg h11]; rw [if_neg h13]; rw [if_neg h15]; rw [if_neg h17]; rw [if_neg h19]; rw [if_neg h21]; rw [if_neg h23]; rw [if_neg h25]; rw [if_neg h27]; rw [if_neg h29]; rw [if_neg h31]; rw [if_neg h33]; rw [if_neg h35]; rw [if_neg h37]; rw [if_neg h39]; rw [if_neg h43]; rw [if_neg h47]; rw [if_neg h51]; rw [if_pos (rfl : (25 : Int32) = (25 : Int32))]; rw [← q55]; (try dsimp only); rw [← q56]; (try dsimp only); (try exact rfl))
  by_cases h57 : a0 = (26 : Int32)
  · refine lv_tableIn (off := 267) (tgt := 272) hx hb dX4_performAtAddress_5 (by rw [h57]; decide) (by rw [h57]; decide) (by rw [h57]; decide) (by decide) ?_
    subst h57
    refine lv_aload_n hx hb dX4_performAtAddress_272 rfl (lv_at hl 1 rfl) ?_
    refine va_get (D := D) (ci := 4) (v := .ref (ad 14)) hx hb hG inX4 hown hK hP 0 rfl rfl 4 (by decide) (hG _ kw149) (fun _ h9 => h9) rfl dX4_performAtAddress_273 ?_
    refine lv_iload_n hx hb dX4_performAtAddress_276 rfl (lv_at hl 0 rfl) ?_
    refine gq (D := D) (j := 2) (x := ad 17) hx hb hK hP 14 2 rfl rfl (inL (by decide)) (by decide) rfl dX4_performAtAddress_277 ?_
    refine lv_aload_n hx hb dX4_performAtAddress_278 rfl (lv_at hl 1 rfl) ?_
    refine va_get (D := D) (ci := 4) (v := .ref (ad 12)) hx hb hG inX4 hown hK hP 0 rfl rfl 6 (by decide) (hG _ kw124) (fun _ h9 => h9) rfl dX4_performAtAddress_279 ?_
    refine kVv (As := [.ref (ad 12)]) (rest := []) (W' := (fun u58 => (wR cI cJ cP ad (x.1, x.2.1, x.2.2.1, (x.2.2.2.1.1, x.2.2.2.1.2.1, u58, x.2.2.2.1.2.2.2), x.2.2.2.2.1, x.2.2.2.2.2.1, x.2.2.2.2.2.2.1, x.2.2.2.2.2.2.2)))) hx hb hml hown hG hl (okX2_become l D cI cJ cP (ad 17) (ad 12) H.size x.2.2.2.1.2.2.1 x.2.2.2.2.2.1 hI.2.2.2.1.2.2.1 hI.2.2.2.2.2.1) (cV 1 hG kw98 kw100 kw101 kw102 kw99 hdX2_become ⟨by decide, by decide⟩) 17 2 rfl rfl hK hP hD hS hA hN [17, 12] rfl rfl rfl (fun _ => rfl) (fun _ => rfl) rfl rfl (Nat.le_of_ble_eq_true rfl) dX4_performAtAddress_282 ⟨Nat.zero_le _, Nat.zero_le _⟩ (fun u58 q58 H locs hP hD hS => ?_)
    have j58 : ivX2_becomeP u58 := by rw [q58]; exact ivX2_become x.2.2.2.1.2.2.1 x.2.2.2.2.2.1 hI.2.2.2.1.2.2.1 hI.2.2.2.2.2.1
    refine lv_aload_n hx hb dX4_performAtAddress_285 rfl (lv_at hl 1 rfl) ?_
    refine kFi (As := []) (rest := []) hx hb hml hown hG hl (okX4_advance l D cI cJ cP ad H.size (x.1, x.2.1, x.2.2.1, (x.2.2.2.1.1, x.2.2.2.1.2.1, u58, x.2.2.2.1.2.2.2), x.2.2.2.2.1, x.2.2.2.2.2.1, x.2.2.2.2.2.2.1, x.2.2.2.2.2.2.2) ⟨hI.1, hI.2.1, hI.2.2.1, ⟨hI.2.2.2.1.1, hI.2.2.2.1.2.1, j58, hI.2.2.2.1.2.2.2⟩, hI.2.2.2.2.1, hI.2.2.2.2.2.1, hI.2.2.2.2.2.2.1, hI.2.2.2.2.2.2.2⟩) (cV 0 hG kw92 kw93 kw94 kw95 kw5 hdX4_advance ⟨by decide, by decide⟩) 0 4 rfl rfl hK hP hD hS hA hN rfl rfl (Nat.le_of_ble_eq_true rfl) dX4_performAtAddress_286 ⟨Nat.zero_le _, Nat.zero_le _⟩ (fun r59 u59 q59 H locs hP hD hS => ?_)
    have j59 : ivX4_advanceP (r59, u59) := by rw [q59]; exact ivX4_advance (x.1, x.2.1, x.2.2.1, (x.2.2.2.1.1, x.2.2.2.1.2.1, u58, x.2.2.2.1.2.2.2), x.2.2.2.2.1, x.2.2.2.2.2.1, x.2.2.2.2.2.2.1, x.2.2.2.2.2.2.2) ⟨hI.1, hI.2.1, hI.2.2.1, ⟨hI.2.2.2.1.1, hI.2.2.2.1.2.1, j58, hI.2.2.2.1.2.2.2⟩, hI.2.2.2.2.1, hI.2.2.2.2.2.1, hI.2.2.2.2.2.2.1, hI.2.2.2.2.2.2.2⟩
    exact reti (u := u59) hx hb hr hlocks hK hP hD hS dX4_performAtAddress_289 (by unfold fnX4_performAtAddress; (try dsimp only); rw [if_neg h1]; rw [if_neg h3]; rw [if_neg h5]; rw [if_neg h7]; rw [if_neg h9]; rw [if_neg h11]; rw [if_neg h13]; rw [if_neg h15]; rw [if_neg h17]; rw [if_neg h19]; rw [if_neg h21]; rw [if_neg h23]; rw [if_neg h25]; rw [if_neg h27]; rw [if_neg h29]; rw [if_neg h31]; rw [if_neg h33]; rw [if_neg h35]; rw [if_neg h37]; rw [if_neg h39]; rw [if_neg h43]; rw [if_neg h47]; rw [if_neg h51]; rw [if_neg h54]; rw [if_pos (rfl : (26 : Int32) = (26 : Int32))]; rw [← q58]; (try dsimp only); rw [← q59]; (try dsimp only); (try exact rfl))
  by_cases h60 : a0 = (27 : Int32)
  · refine lv_tableIn (off := 267) (tgt := 272) hx hb dX4_performAtAddress_5 (by rw [h60]; decide) (by rw [h60]; decide) (by rw [h60]; decide) (by decide) ?_
    subst h60
    refine lv_aload_n hx hb dX4_performAtAddress_272 rfl (lv_at hl 1 rfl) ?_
    refine va_get (D := D) (ci := 4) (v := .ref (ad 14)) hx hb hG inX4 hown hK hP 0 rfl rfl 4 (by decide) (hG _ kw149) (fun _ h9 => h9) rfl dX4_performAtAddress_273 ?_
    refine lv_iload_n hx hb dX4_performAtAddress_276 rfl (lv_at hl 0 rfl) ?_
    refine gq (D := D) (j := 3) (x := ad 18) hx hb hK hP 14 2 rfl rfl (inL (by decide)) (by decide) rfl dX4_performAtAddress_277 ?_
    refine lv_aload_n hx hb dX4_performAtAddress_278 rfl (lv_at hl 1 rfl) ?_
    refine va_get (D := D) (ci := 4) (v := .ref (ad 12)) hx hb hG inX4 hown hK hP 0 rfl rfl 6 (by decide) (hG _ kw124) (fun _ h9 => h9) rfl dX4_performAtAddress_279 ?_
    refine kVv (As := [.ref (ad 12)]) (rest := []) (W' := (fun u61 => (wR cI cJ cP ad (x.1, x.2.1, x.2.2.1, (x.2.2.2.1.1, x.2.2.2.1.2.1, x.2.2.2.1.2.2.1, u61), x.2.2.2.2.1, x.2.2.2.2.2.1, x.2.2.2.2.2.2.1, x.2.2.2.2.2.2.2)))) hx hb hml hown hG hl (okX2_become l D cI cJ cP (ad 18) (ad 12) H.size x.2.2.2.1.2.2.2 x.2.2.2.2.2.1 hI.2.2.2.1.2.2.2 hI.2.2.2.2.2.1) (cV 1 hG kw98 kw100 kw101 kw102 kw99 hdX2_become ⟨by decide, by decide⟩) 18 2 rfl rfl hK hP hD hS hA hN [18, 12] rfl rfl rfl (fun _ => rfl) (fun _ => rfl) rfl rfl (Nat.le_of_ble_eq_true rfl) dX4_performAtAddress_282 ⟨Nat.zero_le _, Nat.zero_le _⟩ (fun u61 q61 H locs hP hD hS => ?_)
    have j61 : ivX2_becomeP u61 := by rw [q61]; exact ivX2_become x.2.2.2.1.2.2.2 x.2.2.2.2.2.1 hI.2.2.2.1.2.2.2 hI.2.2.2.2.2.1
    refine lv_aload_n hx hb dX4_performAtAddress_285 rfl (lv_at hl 1 rfl) ?_
    refine kFi (As := []) (rest := []) hx hb hml hown hG hl (okX4_advance l D cI cJ cP ad H.size (x.1, x.2.1, x.2.2.1, (x.2.2.2.1.1, x.2.2.2.1.2.1, x.2.2.2.1.2.2.1, u61), x.2.2.2.2.1, x.2.2.2.2.2.1, x.2.2.2.2.2.2.1, x.2.2.2.2.2.2.2) ⟨hI.1, hI.2.1, hI.2.2.1, ⟨hI.2.2.2.1.1, hI.2.2.2.1.2.1, hI.2.2.2.1.2.2.1, j61⟩, hI.2.2.2.2.1, hI.2.2.2.2.2.1, hI.2.2.2.2.2.2.1, hI.2.2.2.2.2.2.2⟩) (cV 0 hG kw92 kw93 kw94 kw95 kw5 hdX4_advance ⟨by decide, by decide⟩) 0 4 rfl rfl hK hP hD hS hA hN rfl rfl (Nat.le_of_ble_eq_true rfl) dX4_performAtAddress_286 ⟨Nat.zero_le _, Nat.zero_le _⟩ (fun r62 u62 q62 H locs hP hD hS => ?_)
    have j62 : ivX4_advanceP (r62, u62) := by rw [q62]; exact ivX4_advance (x.1, x.2.1, x.2.2.1, (x.2.2.2.1.1, x.2.2.2.1.2.1, x.2.2.2.1.2.2.1, u61), x.2.2.2.2.1, x.2.2.2.2.2.1, x.2.2.2.2.2.2.1, x.2.2.2.2.2.2.2) ⟨hI.1, hI.2.1, hI.2.2.1, ⟨hI.2.2.2.1.1, hI.2.2.2.1.2.1, hI.2.2.2.1.2.2.1, j61⟩, hI.2.2.2.2.1, hI.2.2.2.2.2.1, hI.2.2.2.2.2.2.1, hI.2.2.2.2.2.2.2⟩
    exact reti (u := u62) hx hb hr hlocks hK hP hD hS dX4_performAtAddress_289 (by unfold fnX4_performAtAddress; (try dsimp only); rw [if_neg h1]; rw [if_neg h3]; rw [if_neg h5]; rw [if_neg h7]; rw [if_neg h9]; rw [if_neg h11]; rw [if_neg h13]; rw [if_neg h15]; rw [if_neg h17]; rw [if_neg h19]; rw [if_neg h21]; rw [if_neg h23]; rw [if_neg h25]; rw [if_neg h27]; rw [if_neg h29]; rw [if_neg h31]; rw [if_neg h33]; rw [if_neg h35]; rw [if_neg h37]; rw [if_neg h39]; rw [if_neg h43]; rw [if_neg h47]; rw [if_neg h51]; rw [if_neg h54]; rw [if_neg h57]; rw [if_pos (rfl : (27 : Int32) = (27 : Int32))]; rw [← q61]; (try dsimp only); rw [← q62]; (try dsimp only); (try exact rfl))
  by_cases h63 : a0 = (28 : Int32)
  · refine lv_tableIn (off := 186) (tgt := 191) hx hb dX4_performAtAddress_5 (by rw [h63]; decide) (by rw [h63]; decide) (by rw [h63]; decide) (by decide) ?_
    subst h63
    refine lv_aload_n hx hb dX4_performAtAddress_191 rfl (lv_at hl 1 rfl) ?_
    refine lv_aload_n hx hb dX4_performAtAddress_192 rfl (lv_at hl 1 rfl) ?_
    refine va_get (D := D) (ci := 4) (v := .ref (ad 14)) hx hb hG inX4 hown hK hP 0 rfl rfl 4 (by decide) (hG _ kw149) (fun _ h9 => h9) rfl dX4_performAtAddress_193 ?_
    refine lv_iload_n hx hb dX4_performAtAddress_196 rfl (lv_at hl 0 rfl) ?_
    refine gq (D := D) (j := 0) (x := ad 15) hx hb hK hP 14 2 rfl rfl (inL (by decide)) (by decide) rfl dX4_performAtAddress_197 ?_
    refine kVl (As := []) (rest := [.ref (ad 0)]) (W' := (fun _ => (wR cI cJ cP ad x))) hx hb hml hown hG hl (okX2_asWord l D cI cJ cP (ad 15) H.size x.2.2.2.1.1 hI.2.2.2.1.1) (cV 0 hG kw181 kw182 kw183 kw184 kw99 hdX2_asWord ⟨by decide, by decide⟩) 15 2 rfl rfl hK hP hD hS hA hN [15] rfl rfl rfl (fun _ => rfl) (fun _ => rfl) rfl rfl (Nat.le_of_ble_eq_true rfl) dX4_performAtAddress_198 ⟨Nat.zero_le _, Nat.zero_le _⟩ (fun r64 _ q64 H locs hP hD hS => ?_)
    have j64 : ivX2_asWordP r64 := by rw [q64]; exact ivX2_asWord x.2.2.2.1.1 hI.2.2.2.1.1
    refine kFi (As := [.long (r64)]) (rest := []) hx hb hml hown hG hl (okX4_put l D cI cJ cP ad H.size x r64 hI j64) (cV 1 hG kw164 kw165 kw166 kw167 kw5 hdX4_put ⟨by decide, by decide⟩) 0 4 rfl rfl hK hP hD hS hA hN rfl rfl (Nat.le_of_ble_eq_true rfl) dX4_performAtAddress_201 ⟨Nat.zero_le _, Nat.zero_le _⟩ (fun r65 u65 q65 H locs hP hD hS => ?_)
    have j65 : ivX4_putP (r65, u65) := by rw [q65]; exact ivX4_put x r64 hI j64
    exact reti (u := u65) hx hb hr hlocks hK hP hD hS dX4_performAtAddress_204 (by unfold fnX4_performAtAddress; (try dsimp only); rw [if_neg h1]; rw [if_neg h3]; rw [if_neg h5]; rw [if_neg h7]; rw [if_neg h9]; rw [if_neg h11]; rw [if_neg h13]; rw [if_neg h15]; rw [if_neg h17]; rw [if_neg h19]; rw [if_neg h21]; rw [if_neg h23]; rw [if_neg h25]; rw [if_neg h27]; rw [if_neg h29]; rw [if_neg h31]; rw [if_neg h33]; rw [if_neg h35]; rw [if_neg h37]; rw [if_neg h39]; rw [if_neg h43]; rw [if_neg h47]; rw [if_neg h51]; rw [if_neg h54]; rw [if_neg h57]; rw [if_neg h60]; rw [if_pos (rfl : (28 : Int32) = (28 : Int32))]; rw [← q64]; (try dsimp only); rw [← q65]; (try dsimp only); (try exact rfl))
  by_cases h66 : a0 = (29 : Int32)
  · refine lv_tableIn (off := 186) (tgt := 191) hx hb dX4_performAtAddress_5 (by rw [h66]; decide) (by rw [h66]; decide) (by rw [h66]; decide) (by decide) ?_
    subst h66
    refine lv_aload_n hx hb dX4_performAtAddress_191 rfl (lv_at hl 1 rfl) ?_
    refine lv_aload_n hx hb dX4_performAtAddress_192 rfl (lv_at hl 1 rfl) ?_
    refine va_get (D := D) (ci := 4) (v := .ref (ad 14)) hx hb hG inX4 hown hK hP 0 rfl rfl 4 (by decide) (hG _ kw149) (fun _ h9 => h9) rfl dX4_performAtAddress_193 ?_
    refine lv_iload_n hx hb dX4_performAtAddress_196 rfl (lv_at hl 0 rfl) ?_
    refine gq (D := D) (j := 1) (x := ad 16) hx hb hK hP 14 2 rfl rfl (inL (by decide)) (by decide) rfl dX4_performAtAddress_197 ?_
    refine kVl (As := []) (rest := [.ref (ad 0)]) (W' := (fun _ => (wR cI cJ cP ad x))) hx hb hml hown hG hl (okX2_asWord l D cI cJ cP (ad 16) H.size x.2.2.2.1.2.1 hI.2.2.2.1.2.1) (cV 0 hG kw181 kw182 kw183 kw184 kw99 hdX2_asWord ⟨by decide, by decide⟩) 16 2 rfl rfl hK hP hD hS hA hN [16] rfl rfl rfl (fun _ => rfl) (fun _ => rfl) rfl rfl (Nat.le_of_ble_eq_true rfl) dX4_performAtAddress_198 ⟨Nat.zero_le _, Nat.zero_le _⟩ (fun r67 _ q67 H locs hP hD hS => ?_)
    have j67 : ivX2_asWordP r67 := by rw [q67]; exact ivX2_asWord x.2.2.2.1.2.1 hI.2.2.2.1.2.1
    refine kFi (As := [.long (r67)]) (rest := []) hx hb hml hown hG hl (okX4_put l D cI cJ cP ad H.size x r67 hI j67) (cV 1 hG kw164 kw165 kw166 kw167 kw5 hdX4_put ⟨by decide, by decide⟩) 0 4 rfl rfl hK hP hD hS hA hN rfl rfl (Nat.le_of_ble_eq_true rfl) dX4_performAtAddress_201 ⟨Nat.zero_le _, Nat.zero_le _⟩ (fun r68 u68 q68 H locs hP hD hS => ?_)
    have j68 : ivX4_putP (r68, u68) := by rw [q68]; exact ivX4_put x r67 hI j67
    exact reti (u := u68) hx hb hr hlocks hK hP hD hS dX4_performAtAddress_204 (by unfold fnX4_performAtAddress; (try dsimp only); rw [if_neg h1]; rw [if_neg h3]; rw [if_neg h5]; rw [if_neg h7]; rw [if_neg h9]; rw [if_neg h11]; rw [if_neg h13]; rw [if_neg h15]; rw [if_neg h17]; rw [if_neg h19]; rw [if_neg h21]; rw [if_neg h23]; rw [if_neg h25]; rw [if_neg h27]; rw [if_neg h29]; rw [if_neg h31]; rw [if_neg h33]; rw [if_neg h35]; rw [if_neg h37]; rw [if_neg h39]; rw [if_neg h43]; rw [if_neg h47]; rw [if_neg h51]; rw [if_neg h54]; rw [if_neg h57]; rw [if_neg h60]; rw [if_neg h63]; rw [if_pos (rfl : (29 : Int32) = (29 : Int32))]; rw [← q67]; (try dsimp only); rw [← q68]; (try dsimp only); (try exact rfl))
  by_cases h69 : a0 = (30 : Int32)
  · refine lv_tableIn (off := 186) (tgt := 191) hx hb dX4_performAtAddress_5 (by rw [h69]; decide) (by rw [h69]; decide) (by rw [h69]; decide) (by decide) ?_
    subst h69
    refine lv_aload_n hx hb dX4_performAtAddress_191 rfl (lv_at hl 1 rfl) ?_
    refine lv_aload_n hx hb dX4_performAtAddress_192 rfl (lv_at hl 1 rfl) ?_
    refine va_get (D := D) (ci := 4) (v := .ref (ad 14)) hx hb hG inX4 hown hK hP 0 rfl rfl 4 (by decide) (hG _ kw149) (fun _ h9 => h9) rfl dX4_performAtAddress_193 ?_
    refine lv_iload_n hx hb dX4_performAtAddress_196 rfl (lv_at hl 0 rfl) ?_
    refine gq (D := D) (j := 2) (x := ad 17) hx hb hK hP 14 2 rfl rfl (inL (by decide)) (by decide) rfl dX4_performAtAddress_197 ?_
    refine kVl (As := []) (rest := [.ref (ad 0)]) (W' := (fun _ => (wR cI cJ cP ad x))) hx hb hml hown hG hl (okX2_asWord l D cI cJ cP (ad 17) H.size x.2.2.2.1.2.2.1 hI.2.2.2.1.2.2.1) (cV 0 hG kw181 kw182 kw183 kw184 kw99 hdX2_asWord ⟨by decide, by decide⟩) 17 2 rfl rfl hK hP hD hS hA hN [17] rfl rfl rfl (fun _ => rfl) (fun _ => rfl) rfl rfl (Nat.le_of_ble_eq_true rfl) dX4_performAtAddress_198 ⟨Nat.zero_le _, Nat.zero_le _⟩ (fun r70 _ q70 H locs hP hD hS => ?_)
    have j70 : ivX2_asWordP r70 := by rw [q70]; exact ivX2_asWord x.2.2.2.1.2.2.1 hI.2.2.2.1.2.2.1
    refine kFi (As := [.long (r70)]) (rest := []) hx hb hml hown hG hl (okX4_put l D cI cJ cP ad H.size x r70 hI j70) (cV 1 hG kw164 kw165 kw166 kw167 kw5 hdX4_put ⟨by decide, by decide⟩) 0 4 rfl rfl hK hP hD hS hA hN rfl rfl (Nat.le_of_ble_eq_true rfl) dX4_performAtAddress_201 ⟨Nat.zero_le _, Nat.zero_le _⟩ (fun r71 u71 q71 H locs hP hD hS => ?_)
    have j71 : ivX4_putP (r71, u71) := by rw [q71]; exact ivX4_put x r70 hI j70
    exact reti (u := u71) hx hb hr hlocks hK hP hD hS dX4_performAtAddress_204 (by unfold fnX4_performAtAddress; (try dsimp only); rw [if_neg h1]; rw [if_neg h3]; rw [if_neg h5]; rw [if_neg h7]; rw [if_neg h9]; rw [if_neg h11]; rw [if_neg h13]; rw [if_neg h15]; rw [if_neg h17]; rw [if_neg h19]; rw [if_neg h21]; rw [if_neg h23]; rw [if_neg h25]; rw [if_neg h27]; rw [if_neg h29]; rw [if_neg h31]; rw [if_neg h33]; rw [if_neg h35]; rw [if_neg h37]; rw [if_neg h39]; rw [if_neg h43]; rw [if_neg h47]; rw [if_neg h51]; rw [if_neg h54]; rw [if_neg h57]; rw [if_neg h60]; rw [if_neg h63]; rw [if_neg h66]; rw [if_pos (rfl : (30 : Int32) = (30 : Int32))]; rw [← q70]; (try dsimp only); rw [← q71]; (try dsimp only); (try exact rfl))
  by_cases h72 : a0 = (31 : Int32)
  · refine lv_tableIn (off := 186) (tgt := 191) hx hb dX4_performAtAddress_5 (by rw [h72]; decide) (by rw [h72]; decide) (by rw [h72]; decide) (by decide) ?_
    subst h72
    refine lv_aload_n hx hb dX4_performAtAddress_191 rfl (lv_at hl 1 rfl) ?_
    refine lv_aload_n hx hb dX4_performAtAddress_192 rfl (lv_at hl 1 rfl) ?_
    refine va_get (D := D) (ci := 4) (v := .ref (ad 14)) hx hb hG inX4 hown hK hP 0 rfl rfl 4 (by decide) (hG _ kw149) (fun _ h9 => h9) rfl dX4_performAtAddress_193 ?_
    refine lv_iload_n hx hb dX4_performAtAddress_196 rfl (lv_at hl 0 rfl) ?_
    refine gq (D := D) (j := 3) (x := ad 18) hx hb hK hP 14 2 rfl rfl (inL (by decide)) (by decide) rfl dX4_performAtAddress_197 ?_
    refine kVl (As := []) (rest := [.ref (ad 0)]) (W' := (fun _ => (wR cI cJ cP ad x))) hx hb hml hown hG hl (okX2_asWord l D cI cJ cP (ad 18) H.size x.2.2.2.1.2.2.2 hI.2.2.2.1.2.2.2) (cV 0 hG kw181 kw182 kw183 kw184 kw99 hdX2_asWord ⟨by decide, by decide⟩) 18 2 rfl rfl hK hP hD hS hA hN [18] rfl rfl rfl (fun _ => rfl) (fun _ => rfl) rfl rfl (Nat.le_of_ble_eq_true rfl) dX4_performAtAddress_198 ⟨Nat.zero_le _, Nat.zero_le _⟩ (fun r73 _ q73 H locs hP hD hS => ?_)
    have j73 : ivX2_asWordP r73 := by rw [q73]; exact ivX2_asWord x.2.2.2.1.2.2.2 hI.2.2.2.1.2.2.2
    refine kFi (As := [.long (r73)]) (rest := []) hx hb hml hown hG hl (okX4_put l D cI cJ cP ad H.size x r73 hI j73) (cV 1 hG kw164 kw165 kw166 kw167 kw5 hdX4_put ⟨by decide, by decide⟩) 0 4 rfl rfl hK hP hD hS hA hN rfl rfl (Nat.le_of_ble_eq_true rfl) dX4_performAtAddress_201 ⟨Nat.zero_le _, Nat.zero_le _⟩ (fun r74 u74 q74 H locs hP hD hS => ?_)
    have j74 : ivX4_putP (r74, u74) := by rw [q74]; exact ivX4_put x r73 hI j73
    exact reti (u := u74) hx hb hr hlocks hK hP hD hS dX4_performAtAddress_204 (by unfold fnX4_performAtAddress; (try dsimp only); rw [if_neg h1]; rw [if_neg h3]; rw [if_neg h5]; rw [if_neg h7]; rw [if_neg h9]; rw [if_neg h11]; rw [if_neg h13]; rw [if_neg h15]; rw [if_neg h17]; rw [if_neg h19]; rw [if_neg h21]; rw [if_neg h23]; rw [if_neg h25]; rw [if_neg h27]; rw [if_neg h29]; rw [if_neg h31]; rw [if_neg h33]; rw [if_neg h35]; rw [if_neg h37]; rw [if_neg h39]; rw [if_neg h43]; rw [if_neg h47]; rw [if_neg h51]; rw [if_neg h54]; rw [if_neg h57]; rw [if_neg h60]; rw [if_neg h63]; rw [if_neg h66]; rw [if_neg h69]; rw [if_pos (rfl : (31 : Int32) = (31 : Int32))]; rw [← q73]; (try dsimp only); rw [← q74]; (try dsimp only); (try exact rfl))
  by_cases h75 : a0 = (32 : Int32)
  · refine lv_tableIn (off := 285) (tgt := 290) hx hb dX4_performAtAddress_5 (by rw [h75]; decide) (by rw [h75]; decide) (by rw [h75]; decide) (by decide) ?_
    subst h75
    refine lv_aload_n hx hb dX4_performAtAddress_290 rfl (lv_at hl 1 rfl) ?_
    refine lv_aload_n hx hb dX4_performAtAddress_291 rfl (lv_at hl 1 rfl) ?_
    refine va_get (D := D) (ci := 4) (v := .ref (ad 12)) hx hb hG inX4 hown hK hP 0 rfl rfl 6 (by decide) (hG _ kw124) (fun _ h9 => h9) rfl dX4_performAtAddress_292 ?_
    refine va_get (D := D) (ci := 2) (v := .int (x.2.2.2.2.2.1.2.1)) hx hb hG inX2 hown hK hP 12 rfl rfl 1 (by decide) (hG _ kw88) (fun _ h9 => h9) rfl dX4_performAtAddress_295 ?_
    refine lv_i2l hx hb dX4_performAtAddress_298 rfl ?_
    refine pu (D := D) (ci := 4) (v := .long ((x.2.2.2.2.2.1.2.1).toInt64)) (ty := .long) (W' := (wR cI cJ cP ad (((x.2.2.2.2.2.1.2.1).toInt64, x.1.2), x.2.1, x.2.2.1, x.2.2.2.1, x.2.2.2.2.1, x.2.2.2.2.2.1, x.2.2.2.2.2.2.1, x.2.2.2.2.2.2.2))) hx hb hG inX4 tyX4 tyokX4 nmX4 hown hK hP hD hS 0 rfl rfl 1 (by decide) (hG _ kw90) (fun _ h9 => h9) rfl (by decide +kernel) rfl rfl (Nat.le_of_ble_eq_true rfl) dX4_performAtAddress_299 rfl (fun H locs hP hD hS => ?_)
    refine lv_aload_n hx hb dX4_performAtAddress_302 rfl (lv_at hl 1 rfl) ?_
    refine kFi (As := []) (rest := []) hx hb hml hown hG hl (okX4_advance l D cI cJ cP ad H.size (((x.2.2.2.2.2.1.2.1).toInt64, x.1.2), x.2.1, x.2.2.1, x.2.2.2.1, x.2.2.2.2.1, x.2.2.2.2.2.1, x.2.2.2.2.2.2.1, x.2.2.2.2.2.2.2) ⟨⟨(i2lW hI.2.2.2.2.2.1.2.1), hI.1.2⟩, hI.2.1, hI.2.2.1, hI.2.2.2.1, hI.2.2.2.2.1, hI.2.2.2.2.2.1, hI.2.2.2.2.2.2.1, hI.2.2.2.2.2.2.2⟩) (cV 0 hG kw92 kw93 kw94 kw95 kw5 hdX4_advance ⟨by decide, by decide⟩) 0 4 rfl rfl hK hP hD hS hA hN rfl rfl (Nat.le_of_ble_eq_true rfl) dX4_performAtAddress_303 ⟨Nat.zero_le _, Nat.zero_le _⟩ (fun r76 u76 q76 H locs hP hD hS => ?_)
    have j76 : ivX4_advanceP (r76, u76) := by rw [q76]; exact ivX4_advance (((x.2.2.2.2.2.1.2.1).toInt64, x.1.2), x.2.1, x.2.2.1, x.2.2.2.1, x.2.2.2.2.1, x.2.2.2.2.2.1, x.2.2.2.2.2.2.1, x.2.2.2.2.2.2.2) ⟨⟨(i2lW hI.2.2.2.2.2.1.2.1), hI.1.2⟩, hI.2.1, hI.2.2.1, hI.2.2.2.1, hI.2.2.2.2.1, hI.2.2.2.2.2.1, hI.2.2.2.2.2.2.1, hI.2.2.2.2.2.2.2⟩
    exact reti (u := u76) hx hb hr hlocks hK hP hD hS dX4_performAtAddress_306 (by unfold fnX4_performAtAddress; (try dsimp only); rw [if_neg h1]; rw [if_neg h3]; rw [if_neg h5]; rw [if_neg h7]; rw [if_neg h9]; rw [if_neg h11]; rw [if_neg h13]; rw [if_neg h15]; rw [if_neg h17]; rw [if_neg h19]; rw [if_neg h21]; rw [if_neg h23]; rw [if_neg h25]; rw [if_neg h27]; rw [if_neg h29]; rw [if_neg h31]; rw [if_neg h33]; rw [if_neg h35]; rw [if_neg h37]; rw [if_neg h39]; rw [if_neg h43]; rw [if_neg h47]; rw [if_neg h51]; rw [if_neg h54]; rw [if_neg h57]; rw [if_neg h60]; rw [if_neg h63]; rw [if_neg h66]; rw [if_neg h69]; rw [if_neg h72]; rw [if_pos (rfl : (32 : Int32) = (32 : Int32))]; rw [← q76]; (try dsimp only); (try exact rfl))
  by_cases h77 : a0 = (33 : Int32)
  · refine lv_tableIn (off := 312) (tgt := 317) hx hb dX4_performAtAddress_5 (by rw [h77]; decide) (by rw [h77]; decide) (by rw [h77]; decide) (by decide) ?_
    subst h77
    refine lv_aload_n hx hb dX4_performAtAddress_317 rfl (lv_at hl 1 rfl) ?_
    refine lv_iload_n hx hb dX4_performAtAddress_318 rfl (lv_at hl 2 rfl) ?_
    refine kFi (As := [.int ((33 : Int32))]) (rest := []) hx hb hml hown hG hl (okX4_load l D cI cJ cP ad H.size x (33 : Int32) hI) (cV 1 hG kw168 kw169 kw170 kw171 kw5 hdX4_load ⟨by decide, by decide⟩) 0 4 rfl rfl hK hP hD hS hA hN rfl rfl (Nat.le_of_ble_eq_true rfl) dX4_performAtAddress_319 ⟨Nat.zero_le _, Nat.zero_le _⟩ (fun r78 u78 q78 H locs hP hD hS => ?_)
    have j78 : ivX4_loadP (r78, u78) := by rw [q78]; exact ivX4_load x (33 : Int32) hI
    exact reti (u := u78) hx hb hr hlocks hK hP hD hS dX4_performAtAddress_322 (by unfold fnX4_performAtAddress; (try dsimp only); rw [if_neg h1]; rw [if_neg h3]; rw [if_neg h5]; rw [if_neg h7]; rw [if_neg h9]; rw [if_neg h11]; rw [if_neg h13]; rw [if_neg h15]; rw [if_neg h17]; rw [if_neg h19]; rw [if_neg h21]; rw [if_neg h23]; rw [if_neg h25]; rw [if_neg h27]; rw [if_neg h29]; rw [if_neg h31]; rw [if_neg h33]; rw [if_neg h35]; rw [if_neg h37]; rw [if_neg h39]; rw [if_neg h43]; rw [if_neg h47]; rw [if_neg h51]; rw [if_neg h54]; rw [if_neg h57]; rw [if_neg h60]; rw [if_neg h63]; rw [if_neg h66]; rw [if_neg h69]; rw [if_neg h72]; rw [if_neg h75]; rw [if_pos (rfl : (33 : Int32) = (33 : Int32))]; rw [← q78]; (try dsimp only); (try exact rfl))
  by_cases h79 : a0 = (34 : Int32)
  · refine lv_tableIn (off := 302) (tgt := 307) hx hb dX4_performAtAddress_5 (by rw [h79]; decide) (by rw [h79]; decide) (by rw [h79]; decide) (by decide) ?_
    subst h79
    refine lv_aload_n hx hb dX4_performAtAddress_307 rfl (lv_at hl 1 rfl) ?_
    refine kFi (As := []) (rest := []) hx hb hml hown hG hl (okX4_callAddress l D cI cJ cP ad H.size x hI) (cV 0 hG kw185 kw186 kw187 kw188 kw5 hdX4_callAddress ⟨by decide, by decide⟩) 0 4 rfl rfl hK hP hD hS hA hN rfl rfl (Nat.le_of_ble_eq_true rfl) dX4_performAtAddress_308 ⟨Nat.zero_le _, Nat.zero_le _⟩ (fun r80 u80 q80 H locs hP hD hS => ?_)
    have j80 : ivX4_callAddressP (r80, u80) := by rw [q80]; exact ivX4_callAddress x hI
    exact reti (u := u80) hx hb hr hlocks hK hP hD hS dX4_performAtAddress_311 (by unfold fnX4_performAtAddress; (try dsimp only); rw [if_neg h1]; rw [if_neg h3]; rw [if_neg h5]; rw [if_neg h7]; rw [if_neg h9]; rw [if_neg h11]; rw [if_neg h13]; rw [if_neg h15]; rw [if_neg h17]; rw [if_neg h19]; rw [if_neg h21]; rw [if_neg h23]; rw [if_neg h25]; rw [if_neg h27]; rw [if_neg h29]; rw [if_neg h31]; rw [if_neg h33]; rw [if_neg h35]; rw [if_neg h37]; rw [if_neg h39]; rw [if_neg h43]; rw [if_neg h47]; rw [if_neg h51]; rw [if_neg h54]; rw [if_neg h57]; rw [if_neg h60]; rw [if_neg h63]; rw [if_neg h66]; rw [if_neg h69]; rw [if_neg h72]; rw [if_neg h75]; rw [if_neg h77]; rw [if_pos (rfl : (34 : Int32) = (34 : Int32))]; rw [← q80]; (try dsimp only); (try exact rfl))
  by_cases h81 : a0 = (35 : Int32)
  · refine lv_tableIn (off := 307) (tgt := 312) hx hb dX4_performAtAddress_5 (by rw [h81]; decide) (by rw [h81]; decide) (by rw [h81]; decide) (by decide) ?_
    subst h81
    refine lv_aload_n hx hb dX4_performAtAddress_312 rfl (lv_at hl 1 rfl) ?_
    refine kFi (As := []) (rest := []) hx hb hml hown hG hl (okX4_returnByWord l D cI cJ cP ad H.size x hI) (cV 0 hG kw189 kw190 kw191 kw192 kw5 hdX4_returnByWord ⟨by decide, by decide⟩) 0 4 rfl rfl hK hP hD hS hA hN rfl rfl (Nat.le_of_ble_eq_true rfl) dX4_performAtAddress_313 ⟨Nat.zero_le _, Nat.zero_le _⟩ (fun r82 u82 q82 H locs hP hD hS => ?_)
    have j82 : ivX4_returnByWordP (r82, u82) := by rw [q82]; exact ivX4_returnByWord x hI
    exact reti (u := u82) hx hb hr hlocks hK hP hD hS dX4_performAtAddress_316 (by unfold fnX4_performAtAddress; (try dsimp only); rw [if_neg h1]; rw [if_neg h3]; rw [if_neg h5]; rw [if_neg h7]; rw [if_neg h9]; rw [if_neg h11]; rw [if_neg h13]; rw [if_neg h15]; rw [if_neg h17]; rw [if_neg h19]; rw [if_neg h21]; rw [if_neg h23]; rw [if_neg h25]; rw [if_neg h27]; rw [if_neg h29]; rw [if_neg h31]; rw [if_neg h33]; rw [if_neg h35]; rw [if_neg h37]; rw [if_neg h39]; rw [if_neg h43]; rw [if_neg h47]; rw [if_neg h51]; rw [if_neg h54]; rw [if_neg h57]; rw [if_neg h60]; rw [if_neg h63]; rw [if_neg h66]; rw [if_neg h69]; rw [if_neg h72]; rw [if_neg h75]; rw [if_neg h77]; rw [if_neg h79]; rw [if_pos (rfl : (35 : Int32) = (35 : Int32))]; rw [← q82]; (try dsimp only); (try exact rfl))
  refine lv_tableOut (tgt := 317) hx hb dX4_performAtAddress_5 (by have a0 := neI (n := 2) h1 (by decide); have a1 := neI (n := 3) h3 (by decide); have a2 := neI (n := 4) h5 (by decide); have a3 := neI (n := 5) h7 (by decide); have a4 := neI (n := 6) h9 (by decide); have a5 := neI (n := 7) h11 (by decide); have a6 := neI (n := 8) h13 (by decide); have a7 := neI (n := 9) h15 (by decide); have a8 := neI (n := 10) h17 (by decide); have a9 := neI (n := 11) h19 (by decide); have a10 := neI (n := 12) h21 (by decide); have a11 := neI (n := 13) h23 (by decide); have a12 := neI (n := 14) h25 (by decide); have a13 := neI (n := 15) h27 (by decide); have a14 := neI (n := 16) h29 (by decide); have a15 := neI (n := 17) h31 (by decide); have a16 := neI (n := 18) h33 (by decide); have a17 := neI (n := 19) h35 (by decide); have a18 := neI (n := 20) h37 (by decide); have a19 := neI (n := 21) h39 (by decide); have a20 := neI (n := 22) h43 (by decide); have a21 := neI (n := 23) h47 (by decide); have a22 := neI (n := 24) h51 (by decide); have a23 := neI (n := 25) h54 (by decide); have a24 := neI (n := 26) h57 (by decide); have a25 := neI (n := 27) h60 (by decide); have a26 := neI (n := 28) h63 (by decide); have a27 := neI (n := 29) h66 (by decide); have a28 := neI (n := 30) h69 (by decide); have a29 := neI (n := 31) h72 (by decide); have a30 := neI (n := 32) h75 (by decide); have a31 := neI (n := 33) h77 (by decide); have a32 := neI (n := 34) h79 (by decide); have a33 := neI (n := 35) h81 (by decide); omega) (by decide) ?_
  refine lv_aload_n hx hb dX4_performAtAddress_317 rfl (lv_at hl 1 rfl) ?_
  refine lv_iload_n hx hb dX4_performAtAddress_318 rfl (lv_at hl 2 rfl) ?_
  refine kFi (As := [.int (a0)]) (rest := []) hx hb hml hown hG hl (okX4_load l D cI cJ cP ad H.size x a0 hI) (cV 1 hG kw168 kw169 kw170 kw171 kw5 hdX4_load ⟨by decide, by decide⟩) 0 4 rfl rfl hK hP hD hS hA hN rfl rfl (Nat.le_of_ble_eq_true rfl) dX4_performAtAddress_319 ⟨Nat.zero_le _, Nat.zero_le _⟩ (fun r83 u83 q83 H locs hP hD hS => ?_)
  have j83 : ivX4_loadP (r83, u83) := by rw [q83]; exact ivX4_load x a0 hI
  exact reti (u := u83) hx hb hr hlocks hK hP hD hS dX4_performAtAddress_322 (by unfold fnX4_performAtAddress; (try dsimp only); rw [if_neg h1]; rw [if_neg h3]; rw [if_neg h5]; rw [if_neg h7]; rw [if_neg h9]; rw [if_neg h11]; rw [if_neg h13]; rw [if_neg h15]; rw [if_neg h17]; rw [if_neg h19]; rw [if_neg h21]; rw [if_neg h23]; rw [if_neg h25]; rw [if_neg h27]; rw [if_neg h29]; rw [if_neg h31]; rw [if_neg h33]; rw [if_neg h35]; rw [if_neg h37]; rw [if_neg h39]; rw [if_neg h43]; rw [if_neg h47]; rw [if_neg h51]; rw [if_neg h54]; rw [if_neg h57]; rw [if_neg h60]; rw [if_neg h63]; rw [if_neg h66]; rw [if_neg h69]; rw [if_neg h72]; rw [if_neg h75]; rw [if_neg h77]; rw [if_neg h79]; rw [if_neg h81]; rw [← q83]; (try dsimp only); (try exact rfl))
