abbrev ivX4_runP (z : Int32 × TR) : Prop := iR z.2
def lpX4_run (a0 : Int32) : Nat → Int32 → TR → Int32 × TR
  | 0, k, u0 => (k, u0)
  | n + 1, k, u0 =>
    if a0 ≤ k then
     (a0, u0)
    else
     if u0.2.1.2.2.1 = (0 : Int32) then
      let p3 := fnX4_takeInterrupt u0
      if p3.1 = (0 : Int32) then
       let p6 := fnX4_perform p3.2
       if p6.1 = (0 : Int32) then
        lpX4_run a0 n (k + (1 : Int32)) p6.2
       else
        let p8 := fnX4_enter p6.2 p6.1
        lpX4_run a0 n (k + (1 : Int32)) p8
      else
       let p5 := fnX4_enter p3.2 p3.1
       lpX4_run a0 n (k + (1 : Int32)) p5
     else
      (k, u0)
theorem lpX4_run_s (a0 : Int32) (n : Nat) (k : Int32) (u0 : TR) : lpX4_run a0 (n + 1) k u0 =
    (if a0 ≤ k then
     (a0, u0)
    else
     if u0.2.1.2.2.1 = (0 : Int32) then
      let p3 := fnX4_takeInterrupt u0
      if p3.1 = (0 : Int32) then
       let p6 := fnX4_perform p3.2
       if p6.1 = (0 : Int32) then
        lpX4_run a0 n (k + (1 : Int32)) p6.2
       else
        let p8 := fnX4_enter p6.2 p6.1
        lpX4_run a0 n (k + (1 : Int32)) p8
      else
       let p5 := fnX4_enter p3.2 p3.1
       lpX4_run a0 n (k + (1 : Int32)) p5
     else
      (k, u0)) := rfl
set_option maxRecDepth 100000 in
set_option maxHeartbeats 4000000 in
theorem ivlpX4_run (a0 : Int32)  : ∀ (n : Nat) (k : Int32) (u0 : TR), iR u0 → ivX4_runP (lpX4_run a0 n k u0) := by
  intro n
  induction n with
  | zero => intro k u0 hI; exact hI
  | succ n ih =>
    intro k u0 hI
    rw [lpX4_run_s]
    try dsimp only
    refine iteI (fun h1 => ?_) (fun h1 => ?_)
    · exact hI
    · refine iteI (fun h2 => ?_) (fun h2 => ?_)
      · have j3 : ivX4_takeInterruptP (fnX4_takeInterrupt u0) := ivX4_takeInterrupt u0 hI
        generalize fnX4_takeInterrupt u0 = p3 at j3 ⊢
        refine iteI (fun h4 => ?_) (fun h4 => ?_)
        · have j6 : ivX4_performP (fnX4_perform p3.2) := ivX4_perform p3.2 j3.2
          generalize fnX4_perform p3.2 = p6 at j6 ⊢
          refine iteI (fun h7 => ?_) (fun h7 => ?_)
          · exact ih (k + (1 : Int32)) p6.2 j6.2
          · have j8 : ivX4_enterP (fnX4_enter p6.2 p6.1) := ivX4_enter p6.2 p6.1 j6.2 j6.1
            generalize fnX4_enter p6.2 p6.1 = p8 at j8 ⊢
            exact ih (k + (1 : Int32)) p8 j8
        · have j5 : ivX4_enterP (fnX4_enter p3.2 p3.1) := ivX4_enter p3.2 p3.1 j3.2 j3.1
          generalize fnX4_enter p3.2 p3.1 = p5 at j5 ⊢
          exact ih (k + (1 : Int32)) p5 j5
      · exact hI
def fnX4_run (x : TR) (a0 : Int32) : Int32 × TR :=
  lpX4_run a0 101 (0 : Int32) x
set_option maxRecDepth 100000 in
set_option maxHeartbeats 4000000 in
theorem ivX4_run (x : TR) (a0 : Int32) (hI : iR x) (g0 : i100 a0) : ivX4_runP (fnX4_run x a0) := by
  unfold fnX4_run
  try dsimp only
  exact ivlpX4_run a0  101 (0 : Int32) x hI
set_option maxRecDepth 100000 in
set_option maxHeartbeats 4000000 in
theorem okX4_run (l : Launch) (D : va_G) (cI cJ cP : ClassId) (ad : Nat → Nat) (sz : Nat) (x : TR) (a0 : Int32) (hI : iR x) (g0 : i100 a0) : Met l yX4_run (Cond.code yX4_run cX4_run 4 (some .int) :: gG) { frames := 7, cells := 0, slots := 0, locals := 175 } (va_Pc [.ref (ad 0), .int a0] (PRE D (tz cI cJ cP) sz (wR cI cJ cP ad x))) (va_Qi (fun (r : Int32) (u : TR) => (r, u) = fnX4_run x a0) (AT D (tz cI cJ cP) (va_A (wR cI cJ cP ad x) sz) (fun (u : TR) => (wR cI cJ cP ad u))) (va_A (wR cI cJ cP ad x) sz)) 0 0 (va_A (wR cI cJ cP ad x) sz) := by
  refine mo (QA := fun A => va_Qi (fun (r : Int32) (u : TR) => (r, u) = fnX4_run x a0) (AT D (tz cI cJ cP) A (fun (u : TR) => (wR cI cJ cP ad u))) A) (by decide) (Nat.le_of_ble_eq_true rfl) ?_
  intro p e s m below meth c A ls H hx hb hr hml hown hG hlocks hnm hA hS hP hK hD hl hN
  have hown : s.vm.findClass RX4 = some m.cls := hown
  have hl : lv_has ls 4 [(0, .ref (ad 0)), (1, .int a0)] := hl
  refine lv_iload_n hx hb dX4_run_0 rfl (lv_at hl 1 rfl) ?_
  refine lv_if_lt (tgt := 10) hx hb dX4_run_1 (by decide) (fun h9 => absurd h9 (nn_i100 g0)) (fun _ => ?_)
  refine lv_iload_n hx hb dX4_run_4 rfl (lv_at hl 1 rfl) ?_
  refine lv_bipush (v := 100) hx hb dX4_run_5 (by decide) ?_
  refine lv_icmp_le (tgt := 18) hx hb dX4_run_7 (by decide) (fun _ => ?_) (fun h9 => absurd (leK_i100 g0 (by decide)) h9)
  refine lv_iconst (v := 0) hx hb dX4_run_18 (by decide) ?_
  refine lv_istore_n (lv' := [(2, .int ((0 : Int32))), (0, .ref (ad 0)), (1, .int (a0))]) hx hb dX4_run_19 rfl hl (by decide) rfl (fun ls hl => ?_)
  have loop20 : ∀ (n : Nat) (k : Int32) (u0 : TR) (H : Heap) (locs : List Loc) (ls : Array Slot), (a0.toInt - k.toInt).toNat < n → iR u0 → 0 ≤ k.toInt → va_P D vwCl (wR cI cJ cP ad u0) H → va_D A (wR cI cJ cP ad u0) → va_S A s.heap H locs → lv_has ls 4 [(2, .int (k)), (0, .ref (ad 0)), (1, .int (a0))] → fnX4_run x a0 = lpX4_run a0 n k u0 → W p l e { frames := 7, cells := 0, slots := 0, locals := 175 } s m ([.ref (ad 0), .int a0]).toArray below meth c H locs 0 0 (MQ below (va_Qi (fun (r : Int32) (u : TR) => (r, u) = fnX4_run x a0) (AT D (tz cI cJ cP) A (fun (u : TR) => (wR cI cJ cP ad u))) A) ([.ref (ad 0), .int a0]).toArray s 0 0 A) (F0 m 20 ls []) := by
    intro n
    induction n with
    | zero => intro k u0 H locs ls hn; exact absurd hn (Nat.not_lt_zero _)
    | succ n ih =>
      intro k u0 H locs ls hn hI hk hP hD hS hl hE
      refine lv_iload_n hx hb dX4_run_20 rfl (lv_at hl 0 rfl) ?_
      refine lv_iload_n hx hb dX4_run_21 rfl (lv_at hl 2 rfl) ?_
      refine lv_icmp_ge (tgt := 63) hx hb dX4_run_22 (by decide) (fun h1 => ?_) (fun h1 => ?_)
      · refine lv_iload_n hx hb dX4_run_63 rfl (lv_at hl 2 rfl) ?_
        exact reti (u := u0) hx hb hr hlocks hK hP hD hS dX4_run_64 (by rw [hE, lpX4_run_s]; (try dsimp only); rw [if_pos h1]; (try exact rfl))
      · refine lv_aload_n hx hb dX4_run_25 rfl (lv_at hl 1 rfl) ?_
        refine va_get (D := D) (ci := 4) (v := .int (u0.2.1.2.2.1)) hx hb hG inX4 hown hK hP 0 rfl rfl 10 (by decide) (hG _ kw103) (fun _ h9 => h9) rfl dX4_run_26 ?_
        refine lv_if_eq (tgt := 34) hx hb dX4_run_29 (by decide) (fun h2 => ?_) (fun h2 => ?_)
        · refine lv_aload_n hx hb dX4_run_34 rfl (lv_at hl 1 rfl) ?_
          refine kFi (As := []) (rest := []) hx hb hml hown hG hl (okX4_takeInterrupt l D cI cJ cP ad H.size u0 hI) (cV 0 hG kw217 kw218 kw219 kw220 kw5 hdX4_takeInterrupt ⟨by decide, by decide⟩) 0 4 rfl rfl hK hP hD hS hA hN rfl rfl (Nat.le_of_ble_eq_true rfl) dX4_run_35 ⟨Nat.zero_le _, Nat.zero_le _⟩ (fun r3 u3 q3 H locs hP hD hS => ?_)
          have j3 : ivX4_takeInterruptP (r3, u3) := by rw [q3]; exact ivX4_takeInterrupt u0 hI
          refine lv_istore_n (lv' := [(3, .int (r3)), (2, .int (k)), (0, .ref (ad 0)), (1, .int (a0))]) hx hb dX4_run_38 rfl hl (by decide) rfl (fun ls hl => ?_)
          refine lv_iload_n hx hb dX4_run_39 rfl (lv_at hl 0 rfl) ?_
          refine lv_if_ne (tgt := 48) hx hb dX4_run_40 (by decide) (fun h4 => ?_) (fun h4 => ?_)
          · refine lv_iload_n hx hb dX4_run_48 rfl (lv_at hl 0 rfl) ?_
            refine lv_if_eq (tgt := 57) hx hb dX4_run_49 (by decide) (fun h9 => absurd h9 h4) (fun _ => ?_)
            refine lv_aload_n hx hb dX4_run_52 rfl (lv_at hl 2 rfl) ?_
            refine lv_iload_n hx hb dX4_run_53 rfl (lv_at hl 0 rfl) ?_
            refine kFv (As := [.int (r3)]) (rest := []) hx hb hml hown hG hl (okX4_enter l D cI cJ cP ad H.size u3 r3 j3.2 j3.1) (cV 1 hG kw221 kw222 kw223 kw224 kw5 hdX4_enter ⟨by decide, by decide⟩) 0 4 rfl rfl hK hP hD hS hA hN rfl rfl (Nat.le_of_ble_eq_true rfl) dX4_run_54 ⟨Nat.zero_le _, Nat.zero_le _⟩ (fun u5 q5 H locs hP hD hS => ?_)
            have j5 : ivX4_enterP u5 := by rw [q5]; exact ivX4_enter u3 r3 j3.2 j3.1
            refine lv_iinc (k := 1) (v := (k + (1 : Int32))) (lv' := [(2, .int ((k + (1 : Int32)))), (3, .int (r3)), (0, .ref (ad 0)), (1, .int (a0))]) hx hb dX4_run_57 hl rfl (by rfl) (by decide) rfl (fun ls hl => ?_)
            refine lv_goto (tgt := 20) hx hb dX4_run_60 (by decide) ?_
            exact ih (k + (1 : Int32)) u5 _ _ _ (lpM (Int32.not_le.mp h1) hn) j5 (lpK (Int32.not_le.mp h1) hk) hP hD hS (lv_sub hl [0, 2, 3] rfl) (by rw [hE, lpX4_run_s]; (try dsimp only); rw [if_neg h1]; rw [if_pos h2]; rw [← q3]; (try dsimp only); rw [if_neg h4]; rw [← q5]; (try dsimp only); (try exact rfl))
          · refine lv_aload_n hx hb dX4_run_43 rfl (lv_at hl 2 rfl) ?_
            refine kFi (As := []) (rest := []) hx hb hml hown hG hl (okX4_perform l D cI cJ cP ad H.size u3 j3.2) (cV 0 hG kw225 kw226 kw227 kw228 kw5 hdX4_perform ⟨by decide, by decide⟩) 0 4 rfl rfl hK hP hD hS hA hN rfl rfl (Nat.le_of_ble_eq_true rfl) dX4_run_44 ⟨Nat.zero_le _, Nat.zero_le _⟩ (fun r6 u6 q6 H locs hP hD hS => ?_)
            have j6 : ivX4_performP (r6, u6) := by rw [q6]; exact ivX4_perform u3 j3.2
            refine lv_istore_n (lv' := [(3, .int (r6)), (2, .int (k)), (0, .ref (ad 0)), (1, .int (a0))]) hx hb dX4_run_47 rfl hl (by decide) rfl (fun ls hl => ?_)
            refine lv_iload_n hx hb dX4_run_48 rfl (lv_at hl 0 rfl) ?_
            refine lv_if_eq (tgt := 57) hx hb dX4_run_49 (by decide) (fun h7 => ?_) (fun h7 => ?_)
            · refine lv_iinc (k := 1) (v := (k + (1 : Int32))) (lv' := [(2, .int ((k + (1 : Int32)))), (3, .int (r6)), (0, .ref (ad 0)), (1, .int (a0))]) hx hb dX4_run_57 hl rfl (by rfl) (by decide) rfl (fun ls hl => ?_)
              refine lv_goto (tgt := 20) hx hb dX4_run_60 (by decide) ?_
              exact ih (k + (1 : Int32)) u6 _ _ _ (lpM (Int32.not_le.mp h1) hn) j6.2 (lpK (Int32.not_le.mp h1) hk) hP hD hS (lv_sub hl [0, 2, 3] rfl) (by rw [hE, lpX4_run_s]; (try dsimp only); rw [if_neg h1]; rw [if_pos h2]; rw [← q3]; (try dsimp only); rw [if_pos h4]; rw [← q6]; (try dsimp only); rw [if_pos h7]; (try exact rfl))
            · refine lv_aload_n hx hb dX4_run_52 rfl (lv_at hl 2 rfl) ?_
              refine lv_iload_n hx hb dX4_run_53 rfl (lv_at hl 0 rfl) ?_
              refine kFv (As := [.int (r6)]) (rest := []) hx hb hml hown hG hl (okX4_enter l D cI cJ cP ad H.size u6 r6 j6.2 j6.1) (cV 1 hG kw221 kw222 kw223 kw224 kw5 hdX4_enter ⟨by decide, by decide⟩) 0 4 rfl rfl hK hP hD hS hA hN rfl rfl (Nat.le_of_ble_eq_true rfl) dX4_run_54 ⟨Nat.zero_le _, Nat.zero_le _⟩ (fun u8 q8 H locs hP hD hS => ?_)
              have j8 : ivX4_enterP u8 := by rw [q8]; exact ivX4_enter u6 r6 j6.2 j6.1
              refine lv_iinc (k := 1) (v := (k + (1 : Int32))) (lv' := [(2, .int ((k + (1 : Int32)))), (3, .int (r6)), (0, .ref (ad 0)), (1, .int (a0))]) hx hb dX4_run_57 hl rfl (by rfl) (by decide) rfl (fun ls hl => ?_)
              refine lv_goto (tgt := 20) hx hb dX4_run_60 (by decide) ?_
              exact ih (k + (1 : Int32)) u8 _ _ _ (lpM (Int32.not_le.mp h1) hn) j8 (lpK (Int32.not_le.mp h1) hk) hP hD hS (lv_sub hl [0, 2, 3] rfl) (by rw [hE, lpX4_run_s]; (try dsimp only); rw [if_neg h1]; rw [if_pos h2]; rw [← q3]; (try dsimp only); rw [if_pos h4]; rw [← q6]; (try dsimp only); rw [if_neg h7]; rw [← q8]; (try dsimp only); (try exact rfl))
        · refine lv_iload_n hx hb dX4_run_32 rfl (lv_at hl 0 rfl) ?_
          exact reti (u := u0) hx hb hr hlocks hK hP hD hS dX4_run_33 (by rw [hE, lpX4_run_s]; (try dsimp only); rw [if_neg h1]; rw [if_neg h2]; (try exact rfl))
  exact loop20 101 (0 : Int32) x _ _ _ (lp0 g0) hI (by decide) hP hD hS (lv_sub hl [0, 1, 2] rfl) (by unfold fnX4_run; (try dsimp only); (try exact rfl))
def fnX4_go (x : TR)  : TR :=
  (x.1, (x.2.1.1, (0 : Int32), (0 : Int32), x.2.1.2.2.2.1, x.2.1.2.2.2.2.1, x.2.1.2.2.2.2.2.1, x.2.1.2.2.2.2.2.2), x.2.2.1, x.2.2.2.1, x.2.2.2.2.1, x.2.2.2.2.2.1, x.2.2.2.2.2.2.1, x.2.2.2.2.2.2.2)
abbrev ivX4_goP (z : TR) : Prop := iR z
set_option maxRecDepth 100000 in
set_option maxHeartbeats 4000000 in
theorem ivX4_go (x : TR)  (hI : iR x) : ivX4_goP (fnX4_go x) := by
  unfold fnX4_go
  try dsimp only
  exact ⟨hI.1, hI.2.1, hI.2.2.1, hI.2.2.2.1, hI.2.2.2.2.1, hI.2.2.2.2.2.1, hI.2.2.2.2.2.2.1, hI.2.2.2.2.2.2.2⟩
set_option maxRecDepth 100000 in
set_option maxHeartbeats 4000000 in
theorem okX4_go (l : Launch) (D : va_G) (cI cJ cP : ClassId) (ad : Nat → Nat) (sz : Nat) (x : TR)  (hI : iR x) : Met l yX4_go (Cond.code yX4_go cX4_go 1 none :: gG) { frames := 0, cells := 0, slots := 0, locals := 0 } (va_Pc [.ref (ad 0)] (PRE D (tz cI cJ cP) sz (wR cI cJ cP ad x))) (va_Qv (fun (u : TR) => u = fnX4_go x) (AT D (tz cI cJ cP) (va_A (wR cI cJ cP ad x) sz) (fun (u : TR) => (wR cI cJ cP ad u))) (va_A (wR cI cJ cP ad x) sz)) 0 0 (va_A (wR cI cJ cP ad x) sz) := by
  refine mo (QA := fun A => va_Qv (fun (u : TR) => u = fnX4_go x) (AT D (tz cI cJ cP) A (fun (u : TR) => (wR cI cJ cP ad u))) A) (by decide) (Nat.le_of_ble_eq_true rfl) ?_
  intro p e s m below meth c A ls H hx hb hr hml hown hG hlocks hnm hA hS hP hK hD hl hN
  have hown : s.vm.findClass RX4 = some m.cls := hown
  have hl : lv_has ls 1 [(0, .ref (ad 0))] := hl
  refine lv_aload_n hx hb dX4_go_0 rfl (lv_at hl 0 rfl) ?_
  refine lv_iconst (v := 0) hx hb dX4_go_1 (by decide) ?_
  refine pu (D := D) (ci := 4) (v := .int ((0 : Int32))) (ty := .boolean) (W' := (wR cI cJ cP ad (x.1, (x.2.1.1, x.2.1.2.1, (0 : Int32), x.2.1.2.2.2.1, x.2.1.2.2.2.2.1, x.2.1.2.2.2.2.2.1, x.2.1.2.2.2.2.2.2), x.2.2.1, x.2.2.2.1, x.2.2.2.2.1, x.2.2.2.2.2.1, x.2.2.2.2.2.2.1, x.2.2.2.2.2.2.2))) hx hb hG inX4 tyX4 tyokX4 nmX4 hown hK hP hD hS 0 rfl rfl 10 (by decide) (hG _ kw103) (fun _ h9 => h9) rfl (by decide +kernel) rfl rfl (Nat.le_of_ble_eq_true rfl) dX4_go_2 rfl (fun H locs hP hD hS => ?_)
  refine lv_aload_n hx hb dX4_go_5 rfl (lv_at hl 0 rfl) ?_
  refine lv_iconst (v := 0) hx hb dX4_go_6 (by decide) ?_
  refine pu (D := D) (ci := 4) (v := .int ((0 : Int32))) (ty := .boolean) (W' := (wR cI cJ cP ad (x.1, (x.2.1.1, (0 : Int32), (0 : Int32), x.2.1.2.2.2.1, x.2.1.2.2.2.2.1, x.2.1.2.2.2.2.2.1, x.2.1.2.2.2.2.2.2), x.2.2.1, x.2.2.2.1, x.2.2.2.2.1, x.2.2.2.2.2.1, x.2.2.2.2.2.2.1, x.2.2.2.2.2.2.2))) hx hb hG inX4 tyX4 tyokX4 nmX4 hown hK hP hD hS 0 rfl rfl 9 (by decide) (hG _ kw96) (fun _ h9 => h9) rfl (by decide +kernel) rfl rfl (Nat.le_of_ble_eq_true rfl) dX4_go_7 rfl (fun H locs hP hD hS => ?_)
  exact retv (u := (x.1, (x.2.1.1, (0 : Int32), (0 : Int32), x.2.1.2.2.2.1, x.2.1.2.2.2.2.1, x.2.1.2.2.2.2.2.1, x.2.1.2.2.2.2.2.2), x.2.2.1, x.2.2.2.1, x.2.2.2.2.1, x.2.2.2.2.2.1, x.2.2.2.2.2.2.1, x.2.2.2.2.2.2.2)) hx hb hr hlocks hK hP hD hS dX4_go_10 (by unfold fnX4_go; (try exact rfl))
def fnX4_state (x : TR) (a0 : Int32) : Int32 :=
  if a0 = (0 : Int32) then
   if x.2.1.2.2.1 = (0 : Int32) then
    (0 : Int32)
   else
    (1 : Int32)
  else
   if a0 = (1 : Int32) then
    if x.2.1.2.1 = (0 : Int32) then
     (0 : Int32)
    else
     (1 : Int32)
   else
    if a0 = (2 : Int32) then
     x.2.1.2.2.2.1
    else
     if a0 = (3 : Int32) then
      x.2.1.2.2.2.2.1
     else
      if a0 = (4 : Int32) then
       x.2.1.2.2.2.2.2.1
      else
       if a0 = (5 : Int32) then
        x.2.1.2.2.2.2.2.2
       else
        (-1 : Int32)
set_option maxRecDepth 100000 in
set_option maxHeartbeats 4000000 in
theorem okX4_state (l : Launch) (D : va_G) (cI cJ cP : ClassId) (ad : Nat → Nat) (sz : Nat) (x : TR) (a0 : Int32) (hI : iR x) : Met l yX4_state (Cond.code yX4_state cX4_state 2 (some .int) :: gG) { frames := 0, cells := 0, slots := 0, locals := 0 } (va_Pc [.ref (ad 0), .int a0] (PRE D (tz cI cJ cP) sz (wR cI cJ cP ad x))) (va_Qi (fun (r : Int32) (_ : Unit) => r = fnX4_state x a0) (AT D (tz cI cJ cP) (va_A (wR cI cJ cP ad x) sz) (fun (_ : Unit) => (wR cI cJ cP ad x))) (va_A (wR cI cJ cP ad x) sz)) 0 0 (va_A (wR cI cJ cP ad x) sz) := by
  refine mo (QA := fun A => va_Qi (fun (r : Int32) (_ : Unit) => r = fnX4_state x a0) (AT D (tz cI cJ cP) A (fun (_ : Unit) => (wR cI cJ cP ad x))) A) (by decide) (Nat.le_of_ble_eq_true rfl) ?_
  intro p e s m below meth c A ls H hx hb hr hml hown hG hlocks hnm hA hS hP hK hD hl hN
  have hown : s.vm.findClass RX4 = some m.cls := hown
  have hl : lv_has ls 2 [(0, .ref (ad 0)), (1, .int a0)] := hl
  refine lv_iload_n hx hb dX4_state_0 rfl (lv_at hl 1 rfl) ?_
  by_cases h1 : a0 = (0 : Int32)
  · refine lv_tableIn (off := 39) (tgt := 40) hx hb dX4_state_1 (by rw [h1]; decide) (by rw [h1]; decide) (by rw [h1]; decide) (by decide) ?_
    refine lv_aload_n hx hb dX4_state_40 rfl (lv_at hl 0 rfl) ?_
    refine va_get (D := D) (ci := 4) (v := .int (x.2.1.2.2.1)) hx hb hG inX4 hown hK hP 0 rfl rfl 10 (by decide) (hG _ kw103) (fun _ h9 => h9) rfl dX4_state_41 ?_
    refine lv_if_eq (tgt := 51) hx hb dX4_state_44 (by decide) (fun h2 => ?_) (fun h2 => ?_)
    · refine lv_iconst (v := 0) hx hb dX4_state_51 (by decide) ?_
      exact reti (u := ()) hx hb hr hlocks hK hP hD hS dX4_state_52 (by unfold fnX4_state; (try dsimp only); rw [if_pos h1]; rw [if_pos h2]; (try exact rfl))
    · refine lv_iconst (v := 1) hx hb dX4_state_47 (by decide) ?_
      refine lv_goto (tgt := 52) hx hb dX4_state_48 (by decide) ?_
      exact reti (u := ()) hx hb hr hlocks hK hP hD hS dX4_state_52 (by unfold fnX4_state; (try dsimp only); rw [if_pos h1]; rw [if_neg h2]; (try exact rfl))
  by_cases h3 : a0 = (1 : Int32)
  · refine lv_tableIn (off := 52) (tgt := 53) hx hb dX4_state_1 (by rw [h3]; decide) (by rw [h3]; decide) (by rw [h3]; decide) (by decide) ?_
    refine lv_aload_n hx hb dX4_state_53 rfl (lv_at hl 0 rfl) ?_
    refine va_get (D := D) (ci := 4) (v := .int (x.2.1.2.1)) hx hb hG inX4 hown hK hP 0 rfl rfl 9 (by decide) (hG _ kw96) (fun _ h9 => h9) rfl dX4_state_54 ?_
    refine lv_if_eq (tgt := 64) hx hb dX4_state_57 (by decide) (fun h4 => ?_) (fun h4 => ?_)
    · refine lv_iconst (v := 0) hx hb dX4_state_64 (by decide) ?_
      exact reti (u := ()) hx hb hr hlocks hK hP hD hS dX4_state_65 (by unfold fnX4_state; (try dsimp only); rw [if_neg h1]; rw [if_pos h3]; rw [if_pos h4]; (try exact rfl))
    · refine lv_iconst (v := 1) hx hb dX4_state_60 (by decide) ?_
      refine lv_goto (tgt := 65) hx hb dX4_state_61 (by decide) ?_
      exact reti (u := ()) hx hb hr hlocks hK hP hD hS dX4_state_65 (by unfold fnX4_state; (try dsimp only); rw [if_neg h1]; rw [if_pos h3]; rw [if_neg h4]; (try exact rfl))
  by_cases h5 : a0 = (2 : Int32)
  · refine lv_tableIn (off := 65) (tgt := 66) hx hb dX4_state_1 (by rw [h5]; decide) (by rw [h5]; decide) (by rw [h5]; decide) (by decide) ?_
    refine lv_aload_n hx hb dX4_state_66 rfl (lv_at hl 0 rfl) ?_
    refine va_get (D := D) (ci := 4) (v := .int (x.2.1.2.2.2.1)) hx hb hG inX4 hown hK hP 0 rfl rfl 11 (by decide) (hG _ kw160) (fun _ h9 => h9) rfl dX4_state_67 ?_
    exact reti (u := ()) hx hb hr hlocks hK hP hD hS dX4_state_70 (by unfold fnX4_state; (try dsimp only); rw [if_neg h1]; rw [if_neg h3]; rw [if_pos h5]; (try exact rfl))
  by_cases h6 : a0 = (3 : Int32)
  · refine lv_tableIn (off := 70) (tgt := 71) hx hb dX4_state_1 (by rw [h6]; decide) (by rw [h6]; decide) (by rw [h6]; decide) (by decide) ?_
    refine lv_aload_n hx hb dX4_state_71 rfl (lv_at hl 0 rfl) ?_
    refine va_get (D := D) (ci := 4) (v := .int (x.2.1.2.2.2.2.1)) hx hb hG inX4 hown hK hP 0 rfl rfl 12 (by decide) (hG _ kw161) (fun _ h9 => h9) rfl dX4_state_72 ?_
    exact reti (u := ()) hx hb hr hlocks hK hP hD hS dX4_state_75 (by unfold fnX4_state; (try dsimp only); rw [if_neg h1]; rw [if_neg h3]; rw [if_neg h5]; rw [if_pos h6]; (try exact rfl))
  by_cases h7 : a0 = (4 : Int32)
  · refine lv_tableIn (off := 75) (tgt := 76) hx hb dX4_state_1 (by rw [h7]; decide) (by rw [h7]; decide) (by rw [h7]; decide) (by decide) ?_
    refine lv_aload_n hx hb dX4_state_76 rfl (lv_at hl 0 rfl) ?_
    refine va_get (D := D) (ci := 4) (v := .int (x.2.1.2.2.2.2.2.1)) hx hb hG inX4 hown hK hP 0 rfl rfl 13 (by decide) (hG _ kw162) (fun _ h9 => h9) rfl dX4_state_77 ?_
    exact reti (u := ()) hx hb hr hlocks hK hP hD hS dX4_state_80 (by unfold fnX4_state; (try dsimp only); rw [if_neg h1]; rw [if_neg h3]; rw [if_neg h5]; rw [if_neg h6]; rw [if_pos h7]; (try exact rfl))
  by_cases h8 : a0 = (5 : Int32)
  · refine lv_tableIn (off := 80) (tgt := 81) hx hb dX4_state_1 (by rw [h8]; decide) (by rw [h8]; decide) (by rw [h8]; decide) (by decide) ?_
    refine lv_aload_n hx hb dX4_state_81 rfl (lv_at hl 0 rfl) ?_
    refine va_get (D := D) (ci := 4) (v := .int (x.2.1.2.2.2.2.2.2)) hx hb hG inX4 hown hK hP 0 rfl rfl 14 (by decide) (hG _ kw159) (fun _ h9 => h9) rfl dX4_state_82 ?_
    exact reti (u := ()) hx hb hr hlocks hK hP hD hS dX4_state_85 (by unfold fnX4_state; (try dsimp only); rw [if_neg h1]; rw [if_neg h3]; rw [if_neg h5]; rw [if_neg h6]; rw [if_neg h7]; rw [if_pos h8]; (try exact rfl))
  refine lv_tableOut (tgt := 86) hx hb dX4_state_1 (by have a0 := neI (n := 0) h1 (by decide); have a1 := neI (n := 1) h3 (by decide); have a2 := neI (n := 2) h5 (by decide); have a3 := neI (n := 3) h6 (by decide); have a4 := neI (n := 4) h7 (by decide); have a5 := neI (n := 5) h8 (by decide); omega) (by decide) ?_
  refine lv_iconst (v := (-1)) hx hb dX4_state_86 (by decide) ?_
  exact reti (u := ()) hx hb hr hlocks hK hP hD hS dX4_state_87 (by unfold fnX4_state; (try dsimp only); rw [if_neg h1]; rw [if_neg h3]; rw [if_neg h5]; rw [if_neg h6]; rw [if_neg h7]; rw [if_neg h8]; (try exact rfl))
def fnX4_saved (x : TR)  : Int64 :=
  if x.2.1.1 = (0 : Int32) then
   (0 : Int64)
  else
   let p2 := fnX2_asWord x.2.2.2.2.2.2.1
   p2
set_option maxRecDepth 100000 in
set_option maxHeartbeats 4000000 in
theorem okX4_saved (l : Launch) (D : va_G) (cI cJ cP : ClassId) (ad : Nat → Nat) (sz : Nat) (x : TR)  (hI : iR x) : Met l yX4_saved (Cond.code yX4_saved cX4_saved 1 (some .long) :: gG) { frames := 1, cells := 0, slots := 0, locals := 20 } (va_Pc [.ref (ad 0)] (PRE D (tz cI cJ cP) sz (wR cI cJ cP ad x))) (va_Ql (fun (r : Int64) (_ : Unit) => r = fnX4_saved x) (AT D (tz cI cJ cP) (va_A (wR cI cJ cP ad x) sz) (fun (_ : Unit) => (wR cI cJ cP ad x))) (va_A (wR cI cJ cP ad x) sz)) 0 0 (va_A (wR cI cJ cP ad x) sz) := by
  refine mo (QA := fun A => va_Ql (fun (r : Int64) (_ : Unit) => r = fnX4_saved x) (AT D (tz cI cJ cP) A (fun (_ : Unit) => (wR cI cJ cP ad x))) A) (by decide) (Nat.le_of_ble_eq_true rfl) ?_
  intro p e s m below meth c A ls H hx hb hr hml hown hG hlocks hnm hA hS hP hK hD hl hN
  have hown : s.vm.findClass RX4 = some m.cls := hown
  have hl : lv_has ls 1 [(0, .ref (ad 0))] := hl
  refine lv_aload_n hx hb dX4_saved_0 rfl (lv_at hl 0 rfl) ?_
  refine va_get (D := D) (ci := 4) (v := .int (x.2.1.1)) hx hb hG inX4 hown hK hP 0 rfl rfl 8 (by decide) (hG _ kw163) (fun _ h9 => h9) rfl dX4_saved_1 ?_
  refine lv_if_eq (tgt := 17) hx hb dX4_saved_4 (by decide) (fun h1 => ?_) (fun h1 => ?_)
  · refine lv_lconst (v := 0) hx hb dX4_saved_17 (by decide) ?_
    exact retl (u := ()) hx hb hr hlocks hK hP hD hS dX4_saved_18 (by unfold fnX4_saved; (try dsimp only); rw [if_pos h1]; (try exact rfl))
  · refine lv_aload_n hx hb dX4_saved_7 rfl (lv_at hl 0 rfl) ?_
    refine va_get (D := D) (ci := 4) (v := .ref (ad 20)) hx hb hG inX4 hown hK hP 0 rfl rfl 7 (by decide) (hG _ kw97) (fun _ h9 => h9) rfl dX4_saved_8 ?_
    refine kVl (As := []) (rest := []) (W' := (fun _ => (wR cI cJ cP ad x))) hx hb hml hown hG hl (okX2_asWord l D cI cJ cP (ad 20) H.size x.2.2.2.2.2.2.1 hI.2.2.2.2.2.2.1) (cV 0 hG kw181 kw182 kw183 kw184 kw99 hdX2_asWord ⟨by decide, by decide⟩) 20 2 rfl rfl hK hP hD hS hA hN [20] rfl rfl rfl (fun _ => rfl) (fun _ => rfl) rfl rfl (Nat.le_of_ble_eq_true rfl) dX4_saved_11 ⟨Nat.zero_le _, Nat.zero_le _⟩ (fun r2 _ q2 H locs hP hD hS => ?_)
    have j2 : ivX2_asWordP r2 := by rw [q2]; exact ivX2_asWord x.2.2.2.2.2.2.1 hI.2.2.2.2.2.2.1
    refine lv_goto (tgt := 18) hx hb dX4_saved_14 (by decide) ?_
    exact retl (u := ()) hx hb hr hlocks hK hP hD hS dX4_saved_18 (by unfold fnX4_saved; (try dsimp only); rw [if_neg h1]; rw [← q2]; (try dsimp only); (try exact rfl))
def fnX4_copy (x : TR) (a0 : Int32) (a1 : Int32) : Int32 :=
  if a1 = (0 : Int32) then
   let p2 := fnX0_nameAt x.2.2.2.2.2.2.2.2.1 a0
   p2
  else
   if a1 = (1 : Int32) then
    let p4 := fnX0_nameAt x.2.2.2.2.2.2.2.2.2.1 a0
    p4
   else
    (-1 : Int32)
set_option maxRecDepth 100000 in
set_option maxHeartbeats 4000000 in
theorem okX4_copy (l : Launch) (D : va_G) (cI cJ cP : ClassId) (ad : Nat → Nat) (sz : Nat) (x : TR) (a0 : Int32) (a1 : Int32) (hI : iR x) : Met l yX4_copy (Cond.code yX4_copy cX4_copy 3 (some .int) :: gG) { frames := 1, cells := 0, slots := 0, locals := 21 } (va_Pc [.ref (ad 0), .int a0, .int a1] (PRE D (tz cI cJ cP) sz (wR cI cJ cP ad x))) (va_Qi (fun (r : Int32) (_ : Unit) => r = fnX4_copy x a0 a1) (AT D (tz cI cJ cP) (va_A (wR cI cJ cP ad x) sz) (fun (_ : Unit) => (wR cI cJ cP ad x))) (va_A (wR cI cJ cP ad x) sz)) 0 0 (va_A (wR cI cJ cP ad x) sz) := by
  refine mo (QA := fun A => va_Qi (fun (r : Int32) (_ : Unit) => r = fnX4_copy x a0 a1) (AT D (tz cI cJ cP) A (fun (_ : Unit) => (wR cI cJ cP ad x))) A) (by decide) (Nat.le_of_ble_eq_true rfl) ?_
  intro p e s m below meth c A ls H hx hb hr hml hown hG hlocks hnm hA hS hP hK hD hl hN
  have hown : s.vm.findClass RX4 = some m.cls := hown
  have hl : lv_has ls 3 [(0, .ref (ad 0)), (1, .int a0), (2, .int a1)] := hl
  refine lv_iload_n hx hb dX4_copy_0 rfl (lv_at hl 2 rfl) ?_
  by_cases h1 : a1 = (0 : Int32)
  · refine lv_lookup (off := 27) (tgt := 28) hx hb dX4_copy_1 (by decide) (by rw [h1]; decide) (by decide) ?_
    refine lv_aload_n hx hb dX4_copy_28 rfl (lv_at hl 0 rfl) ?_
    refine va_get (D := D) (ci := 4) (v := .ref (ad 1)) hx hb hG inX4 hown hK hP 0 rfl rfl 0 (by decide) (hG _ kw104) (fun _ h9 => h9) rfl dX4_copy_29 ?_
    refine va_get (D := D) (ci := 3) (v := .ref (ad 3)) hx hb hG inX3 hown hK hP 1 rfl rfl 1 (by decide) (hG _ kw105) (fun _ h9 => h9) rfl dX4_copy_32 ?_
    refine lv_iload_n hx hb dX4_copy_35 rfl (lv_at hl 1 rfl) ?_
    refine kVi (As := [.int (a0)]) (rest := []) (W' := (fun _ => (wR cI cJ cP ad x))) hx hb hml hown hG hl (okX0_nameAt l D cI cJ cP (ad 3) (ad 4) (ad 5) (ad 6) H.size x.2.2.2.2.2.2.2.2.1 a0 hI.2.2.2.2.2.2.2.2.1) (cV 1 hG kw229 kw230 kw231 kw232 kw38 hdX0_nameAt ⟨by decide, by decide⟩) 3 0 rfl rfl hK hP hD hS hA hN [3, 4, 5, 6] rfl rfl rfl (fun _ => rfl) (fun _ => rfl) rfl rfl (Nat.le_of_ble_eq_true rfl) dX4_copy_36 ⟨Nat.zero_le _, Nat.zero_le _⟩ (fun r2 _ q2 H locs hP hD hS => ?_)
    exact reti (u := ()) hx hb hr hlocks hK hP hD hS dX4_copy_39 (by unfold fnX4_copy; (try dsimp only); rw [if_pos h1]; rw [← q2]; (try dsimp only); (try exact rfl))
  by_cases h3 : a1 = (1 : Int32)
  · refine lv_lookup (off := 39) (tgt := 40) hx hb dX4_copy_1 (by decide) (by rw [h3]; decide) (by decide) ?_
    refine lv_aload_n hx hb dX4_copy_40 rfl (lv_at hl 0 rfl) ?_
    refine va_get (D := D) (ci := 4) (v := .ref (ad 1)) hx hb hG inX4 hown hK hP 0 rfl rfl 0 (by decide) (hG _ kw104) (fun _ h9 => h9) rfl dX4_copy_41 ?_
    refine va_get (D := D) (ci := 3) (v := .ref (ad 7)) hx hb hG inX3 hown hK hP 1 rfl rfl 2 (by decide) (hG _ kw110) (fun _ h9 => h9) rfl dX4_copy_44 ?_
    refine lv_iload_n hx hb dX4_copy_47 rfl (lv_at hl 1 rfl) ?_
    refine kVi (As := [.int (a0)]) (rest := []) (W' := (fun _ => (wR cI cJ cP ad x))) hx hb hml hown hG hl (okX0_nameAt l D cI cJ cP (ad 7) (ad 8) (ad 9) (ad 10) H.size x.2.2.2.2.2.2.2.2.2.1 a0 hI.2.2.2.2.2.2.2.2.2.1) (cV 1 hG kw229 kw230 kw231 kw232 kw38 hdX0_nameAt ⟨by decide, by decide⟩) 7 0 rfl rfl hK hP hD hS hA hN [7, 8, 9, 10] rfl rfl rfl (fun _ => rfl) (fun _ => rfl) rfl rfl (Nat.le_of_ble_eq_true rfl) dX4_copy_48 ⟨Nat.zero_le _, Nat.zero_le _⟩ (fun r4 _ q4 H locs hP hD hS => ?_)
    exact reti (u := ()) hx hb hr hlocks hK hP hD hS dX4_copy_51 (by unfold fnX4_copy; (try dsimp only); rw [if_neg h1]; rw [if_pos h3]; rw [← q4]; (try dsimp only); (try exact rfl))
  refine lv_lookup (off := 51) (tgt := 52) hx hb dX4_copy_1 (by decide) ((lv_osw h1 (by decide)).trans ((lv_osw h3 (by decide)).trans (rfl))) (by decide) ?_
  refine lv_iconst (v := (-1)) hx hb dX4_copy_52 (by decide) ?_
  exact reti (u := ()) hx hb hr hlocks hK hP hD hS dX4_copy_53 (by unfold fnX4_copy; (try dsimp only); rw [if_neg h1]; rw [if_neg h3]; (try exact rfl))
def fnX4_poke (x : TR) (a0 : Int32) (a1 : Int64) : TR :=
  (x.1, x.2.1, x.2.2.1, x.2.2.2.1, x.2.2.2.2.1, x.2.2.2.2.2.1, x.2.2.2.2.2.2.1, ((vp_updL x.2.2.2.2.2.2.2.1 (a0).toNatClampNeg (a1 &&& (68719476735 : Int64))), x.2.2.2.2.2.2.2.2.1, x.2.2.2.2.2.2.2.2.2.1, x.2.2.2.2.2.2.2.2.2.2))
abbrev ivX4_pokeP (z : TR) : Prop := iR z
set_option maxRecDepth 100000 in
set_option maxHeartbeats 4000000 in
theorem ivX4_poke (x : TR) (a0 : Int32) (a1 : Int64) (hI : iR x) (g0 : i12 a0) : ivX4_pokeP (fnX4_poke x a0 a1) := by
  unfold fnX4_poke
  try dsimp only
  exact ⟨hI.1, hI.2.1, hI.2.2.1, hI.2.2.2.1, hI.2.2.2.2.1, hI.2.2.2.2.2.1, hI.2.2.2.2.2.2.1, ⟨(upW hI.2.2.2.2.2.2.2.1 (mkW _)), hI.2.2.2.2.2.2.2.2.1, hI.2.2.2.2.2.2.2.2.2.1, hI.2.2.2.2.2.2.2.2.2.2⟩⟩
set_option maxRecDepth 100000 in
set_option maxHeartbeats 4000000 in
theorem okX4_poke (l : Launch) (D : va_G) (cI cJ cP : ClassId) (ad : Nat → Nat) (sz : Nat) (x : TR) (a0 : Int32) (a1 : Int64) (hI : iR x) (g0 : i12 a0) : Met l yX4_poke (Cond.code yX4_poke cX4_poke 4 none :: gG) { frames := 0, cells := 0, slots := 0, locals := 0 } (va_Pc [.ref (ad 0), .int a0, .long a1] (PRE D (tz cI cJ cP) sz (wR cI cJ cP ad x))) (va_Qv (fun (u : TR) => u = fnX4_poke x a0 a1) (AT D (tz cI cJ cP) (va_A (wR cI cJ cP ad x) sz) (fun (u : TR) => (wR cI cJ cP ad u))) (va_A (wR cI cJ cP ad x) sz)) 0 0 (va_A (wR cI cJ cP ad x) sz) := by
  refine mo (QA := fun A => va_Qv (fun (u : TR) => u = fnX4_poke x a0 a1) (AT D (tz cI cJ cP) A (fun (u : TR) => (wR cI cJ cP ad u))) A) (by decide) (Nat.le_of_ble_eq_true rfl) ?_
  intro p e s m below meth c A ls H hx hb hr hml hown hG hlocks hnm hA hS hP hK hD hl hN
  have hown : s.vm.findClass RX4 = some m.cls := hown
  have hl : lv_has ls 4 [(0, .ref (ad 0)), (1, .int a0), (2, .long a1)] := hl
  refine lv_iload_n hx hb dX4_poke_0 rfl (lv_at hl 1 rfl) ?_
  refine lv_if_lt (tgt := 11) hx hb dX4_poke_1 (by decide) (fun h9 => absurd h9 (nn_i12 g0)) (fun _ => ?_)
  refine lv_iload_n hx hb dX4_poke_4 rfl (lv_at hl 1 rfl) ?_
  refine lv_sipush (v := 4095) hx hb dX4_poke_5 (by decide) ?_
  refine lv_icmp_le (tgt := 19) hx hb dX4_poke_8 (by decide) (fun _ => ?_) (fun h9 => absurd (leK_i12 g0 (by decide)) h9)
  refine lv_aload_n hx hb dX4_poke_19 rfl (lv_at hl 0 rfl) ?_
  refine va_get (D := D) (ci := 4) (v := .ref (ad 1)) hx hb hG inX4 hown hK hP 0 rfl rfl 0 (by decide) (hG _ kw104) (fun _ h9 => h9) rfl dX4_poke_20 ?_
  refine va_get (D := D) (ci := 3) (v := .ref (ad 2)) hx hb hG inX3 hown hK hP 1 rfl rfl 0 (by decide) (hG _ kw233) (fun _ h9 => h9) rfl dX4_poke_23 ?_
  refine lv_iload_n hx hb dX4_poke_26 rfl (lv_at hl 1 rfl) ?_
  refine lv_lload_n hx hb dX4_poke_27 rfl (lv_at hl 2 rfl) ?_
  refine lv_ldc2 (v := 68719476735) hx hb hown (hG _ kw133) dX4_poke_28 ?_
  refine lv_land hx hb dX4_poke_31 ?_
  refine sl (D := D) (j := (a0).toNatClampNeg) (f := x.2.2.2.2.2.2.2.1) (x := (a1 &&& (68719476735 : Int64))) (W' := (wR cI cJ cP ad (x.1, x.2.1, x.2.2.1, x.2.2.2.1, x.2.2.2.2.1, x.2.2.2.2.2.1, x.2.2.2.2.2.2.1, ((vp_updL x.2.2.2.2.2.2.2.1 (a0).toNatClampNeg (a1 &&& (68719476735 : Int64))), x.2.2.2.2.2.2.2.2.1, x.2.2.2.2.2.2.2.2.2.1, x.2.2.2.2.2.2.2.2.2.2)))) hx hb hK hP hD hS 2 1 rfl rfl (in12 g0) rfl dX4_poke_32 rfl (fun H locs hP hD hS => ?_)
  exact retv (u := (x.1, x.2.1, x.2.2.1, x.2.2.2.1, x.2.2.2.2.1, x.2.2.2.2.2.1, x.2.2.2.2.2.2.1, ((vp_updL x.2.2.2.2.2.2.2.1 (a0).toNatClampNeg (a1 &&& (68719476735 : Int64))), x.2.2.2.2.2.2.2.2.1, x.2.2.2.2.2.2.2.2.2.1, x.2.2.2.2.2.2.2.2.2.2))) hx hb hr hlocks hK hP hD hS dX4_poke_33 (by unfold fnX4_poke; (try exact rfl))
def fnX4_peek (x : TR) (a0 : Int32) : Int64 :=
  (x.2.2.2.2.2.2.2.1 (a0).toNatClampNeg)
set_option maxRecDepth 100000 in
set_option maxHeartbeats 4000000 in
theorem okX4_peek (l : Launch) (D : va_G) (cI cJ cP : ClassId) (ad : Nat → Nat) (sz : Nat) (x : TR) (a0 : Int32) (hI : iR x) (g0 : i12 a0) : Met l yX4_peek (Cond.code yX4_peek cX4_peek 2 (some .long) :: gG) { frames := 0, cells := 0, slots := 0, locals := 0 } (va_Pc [.ref (ad 0), .int a0] (PRE D (tz cI cJ cP) sz (wR cI cJ cP ad x))) (va_Ql (fun (r : Int64) (_ : Unit) => r = fnX4_peek x a0) (AT D (tz cI cJ cP) (va_A (wR cI cJ cP ad x) sz) (fun (_ : Unit) => (wR cI cJ cP ad x))) (va_A (wR cI cJ cP ad x) sz)) 0 0 (va_A (wR cI cJ cP ad x) sz) := by
  refine mo (QA := fun A => va_Ql (fun (r : Int64) (_ : Unit) => r = fnX4_peek x a0) (AT D (tz cI cJ cP) A (fun (_ : Unit) => (wR cI cJ cP ad x))) A) (by decide) (Nat.le_of_ble_eq_true rfl) ?_
  intro p e s m below meth c A ls H hx hb hr hml hown hG hlocks hnm hA hS hP hK hD hl hN
  have hown : s.vm.findClass RX4 = some m.cls := hown
  have hl : lv_has ls 2 [(0, .ref (ad 0)), (1, .int a0)] := hl
  refine lv_iload_n hx hb dX4_peek_0 rfl (lv_at hl 1 rfl) ?_
  refine lv_if_lt (tgt := 11) hx hb dX4_peek_1 (by decide) (fun h9 => absurd h9 (nn_i12 g0)) (fun _ => ?_)
  refine lv_iload_n hx hb dX4_peek_4 rfl (lv_at hl 1 rfl) ?_
  refine lv_sipush (v := 4095) hx hb dX4_peek_5 (by decide) ?_
  refine lv_icmp_le (tgt := 19) hx hb dX4_peek_8 (by decide) (fun _ => ?_) (fun h9 => absurd (leK_i12 g0 (by decide)) h9)
  refine lv_aload_n hx hb dX4_peek_19 rfl (lv_at hl 0 rfl) ?_
  refine va_get (D := D) (ci := 4) (v := .ref (ad 1)) hx hb hG inX4 hown hK hP 0 rfl rfl 0 (by decide) (hG _ kw104) (fun _ h9 => h9) rfl dX4_peek_20 ?_
  refine va_get (D := D) (ci := 3) (v := .ref (ad 2)) hx hb hG inX3 hown hK hP 1 rfl rfl 0 (by decide) (hG _ kw233) (fun _ h9 => h9) rfl dX4_peek_23 ?_
  refine lv_iload_n hx hb dX4_peek_26 rfl (lv_at hl 1 rfl) ?_
  refine gl (D := D) (j := (a0).toNatClampNeg) (f := x.2.2.2.2.2.2.2.1) hx hb hK hP 2 1 rfl rfl (in12 g0) rfl dX4_peek_27 ?_
  exact retl (u := ()) hx hb hr hlocks hK hP hD hS dX4_peek_28 (by unfold fnX4_peek; (try exact rfl))
def fnX4_set (x : TR) (a0 : Int32) (a1 : Int64) : TR :=
  if a0 = (0 : Int32) then
   (((a1 &&& (68719476735 : Int64)), x.1.2), x.2.1, x.2.2.1, x.2.2.2.1, x.2.2.2.2.1, x.2.2.2.2.2.1, x.2.2.2.2.2.2.1, x.2.2.2.2.2.2.2)
  else
   if a0 = (1 : Int32) then
    ((x.1.1, (a1 &&& (68719476735 : Int64))), x.2.1, x.2.2.1, x.2.2.2.1, x.2.2.2.2.1, x.2.2.2.2.2.1, x.2.2.2.2.2.2.1, x.2.2.2.2.2.2.2)
   else
    if (5 : Int32) < a0 then
     if (9 : Int32) < a0 then
      let p5 := fnX2_takeFrom x.2.2.2.2.1 a1
      (x.1, x.2.1, x.2.2.1, x.2.2.2.1, p5, x.2.2.2.2.2.1, x.2.2.2.2.2.2.1, x.2.2.2.2.2.2.2)
     else
      if (a0 - (6 : Int32)) = (0 : Int32) then
       let p7 := fnX2_takeFrom x.2.2.2.1.1 a1
       (x.1, x.2.1, x.2.2.1, (p7, x.2.2.2.1.2.1, x.2.2.2.1.2.2.1, x.2.2.2.1.2.2.2), x.2.2.2.2.1, x.2.2.2.2.2.1, x.2.2.2.2.2.2.1, x.2.2.2.2.2.2.2)
      else
       if (a0 - (6 : Int32)) = (1 : Int32) then
        let p9 := fnX2_takeFrom x.2.2.2.1.2.1 a1
        (x.1, x.2.1, x.2.2.1, (x.2.2.2.1.1, p9, x.2.2.2.1.2.2.1, x.2.2.2.1.2.2.2), x.2.2.2.2.1, x.2.2.2.2.2.1, x.2.2.2.2.2.2.1, x.2.2.2.2.2.2.2)
       else
        if (a0 - (6 : Int32)) = (2 : Int32) then
         let p11 := fnX2_takeFrom x.2.2.2.1.2.2.1 a1
         (x.1, x.2.1, x.2.2.1, (x.2.2.2.1.1, x.2.2.2.1.2.1, p11, x.2.2.2.1.2.2.2), x.2.2.2.2.1, x.2.2.2.2.2.1, x.2.2.2.2.2.2.1, x.2.2.2.2.2.2.2)
        else
         let p13 := fnX2_takeFrom x.2.2.2.1.2.2.2 a1
         (x.1, x.2.1, x.2.2.1, (x.2.2.2.1.1, x.2.2.2.1.2.1, x.2.2.2.1.2.2.1, p13), x.2.2.2.2.1, x.2.2.2.2.2.1, x.2.2.2.2.2.2.1, x.2.2.2.2.2.2.2)
    else
     let p14 := fnX4_field a1 (0 : Int32) (12 : Int32)
     (x.1, x.2.1, (upd x.2.2.1 ((a0 - (2 : Int32))).toNatClampNeg p14), x.2.2.2.1, x.2.2.2.2.1, x.2.2.2.2.2.1, x.2.2.2.2.2.2.1, x.2.2.2.2.2.2.2)
abbrev ivX4_setP (z : TR) : Prop := iR z
set_option maxRecDepth 100000 in
set_option maxHeartbeats 4000000 in
theorem ivX4_set (x : TR) (a0 : Int32) (a1 : Int64) (hI : iR x) (g0 : i10 a0) : ivX4_setP (fnX4_set x a0 a1) := by
  unfold fnX4_set
  try dsimp only
  refine iteI (fun h1 => ?_) (fun h1 => ?_)
  · exact ⟨⟨(mkW _), hI.1.2⟩, hI.2.1, hI.2.2.1, hI.2.2.2.1, hI.2.2.2.2.1, hI.2.2.2.2.2.1, hI.2.2.2.2.2.2.1, hI.2.2.2.2.2.2.2⟩
  · refine iteI (fun h2 => ?_) (fun h2 => ?_)
    · exact ⟨⟨hI.1.1, (mkW _)⟩, hI.2.1, hI.2.2.1, hI.2.2.2.1, hI.2.2.2.2.1, hI.2.2.2.2.2.1, hI.2.2.2.2.2.2.1, hI.2.2.2.2.2.2.2⟩
    · refine iteI (fun h3 => ?_) (fun h3 => ?_)
      · refine iteI (fun h4 => ?_) (fun h4 => ?_)
        · have j5 : ivX2_takeFromP (fnX2_takeFrom x.2.2.2.2.1 a1) := ivX2_takeFrom x.2.2.2.2.1 a1 hI.2.2.2.2.1
          generalize fnX2_takeFrom x.2.2.2.2.1 a1 = p5 at j5 ⊢
          exact ⟨hI.1, hI.2.1, hI.2.2.1, hI.2.2.2.1, j5, hI.2.2.2.2.2.1, hI.2.2.2.2.2.2.1, hI.2.2.2.2.2.2.2⟩
        · refine iteI (fun h6 => ?_) (fun h6 => ?_)
          · have j7 : ivX2_takeFromP (fnX2_takeFrom x.2.2.2.1.1 a1) := ivX2_takeFrom x.2.2.2.1.1 a1 hI.2.2.2.1.1
            generalize fnX2_takeFrom x.2.2.2.1.1 a1 = p7 at j7 ⊢
            exact ⟨hI.1, hI.2.1, hI.2.2.1, ⟨j7, hI.2.2.2.1.2.1, hI.2.2.2.1.2.2.1, hI.2.2.2.1.2.2.2⟩, hI.2.2.2.2.1, hI.2.2.2.2.2.1, hI.2.2.2.2.2.2.1, hI.2.2.2.2.2.2.2⟩
          · refine iteI (fun h8 => ?_) (fun h8 => ?_)
            · have j9 : ivX2_takeFromP (fnX2_takeFrom x.2.2.2.1.2.1 a1) := ivX2_takeFrom x.2.2.2.1.2.1 a1 hI.2.2.2.1.2.1
              generalize fnX2_takeFrom x.2.2.2.1.2.1 a1 = p9 at j9 ⊢
              exact ⟨hI.1, hI.2.1, hI.2.2.1, ⟨hI.2.2.2.1.1, j9, hI.2.2.2.1.2.2.1, hI.2.2.2.1.2.2.2⟩, hI.2.2.2.2.1, hI.2.2.2.2.2.1, hI.2.2.2.2.2.2.1, hI.2.2.2.2.2.2.2⟩
            · refine iteI (fun h10 => ?_) (fun h10 => ?_)
              · have j11 : ivX2_takeFromP (fnX2_takeFrom x.2.2.2.1.2.2.1 a1) := ivX2_takeFrom x.2.2.2.1.2.2.1 a1 hI.2.2.2.1.2.2.1
                generalize fnX2_takeFrom x.2.2.2.1.2.2.1 a1 = p11 at j11 ⊢
                exact ⟨hI.1, hI.2.1, hI.2.2.1, ⟨hI.2.2.2.1.1, hI.2.2.2.1.2.1, j11, hI.2.2.2.1.2.2.2⟩, hI.2.2.2.2.1, hI.2.2.2.2.2.1, hI.2.2.2.2.2.2.1, hI.2.2.2.2.2.2.2⟩
              · have j13 : ivX2_takeFromP (fnX2_takeFrom x.2.2.2.1.2.2.2 a1) := ivX2_takeFrom x.2.2.2.1.2.2.2 a1 hI.2.2.2.1.2.2.2
                generalize fnX2_takeFrom x.2.2.2.1.2.2.2 a1 = p13 at j13 ⊢
                exact ⟨hI.1, hI.2.1, hI.2.2.1, ⟨hI.2.2.2.1.1, hI.2.2.2.1.2.1, hI.2.2.2.1.2.2.1, j13⟩, hI.2.2.2.2.1, hI.2.2.2.2.2.1, hI.2.2.2.2.2.2.1, hI.2.2.2.2.2.2.2⟩
      · have j14 : i12 (fnX4_field a1 (0 : Int32) (12 : Int32)) := (f12X a1 (0 : Int32))
        generalize fnX4_field a1 (0 : Int32) (12 : Int32) = p14 at j14 ⊢
        exact ⟨hI.1, hI.2.1, (up12 hI.2.2.1 j14), hI.2.2.2.1, hI.2.2.2.2.1, hI.2.2.2.2.2.1, hI.2.2.2.2.2.2.1, hI.2.2.2.2.2.2.2⟩
set_option maxRecDepth 100000 in
set_option maxHeartbeats 4000000 in
theorem okX4_set (l : Launch) (D : va_G) (cI cJ cP : ClassId) (ad : Nat → Nat) (sz : Nat) (x : TR) (a0 : Int32) (a1 : Int64) (hI : iR x) (g0 : i10 a0) : Met l yX4_set (Cond.code yX4_set cX4_set 4 none :: gG) { frames := 2, cells := 0, slots := 0, locals := 45 } (va_Pc [.ref (ad 0), .int a0, .long a1] (PRE D (tz cI cJ cP) sz (wR cI cJ cP ad x))) (va_Qv (fun (u : TR) => u = fnX4_set x a0 a1) (AT D (tz cI cJ cP) (va_A (wR cI cJ cP ad x) sz) (fun (u : TR) => (wR cI cJ cP ad u))) (va_A (wR cI cJ cP ad x) sz)) 0 0 (va_A (wR cI cJ cP ad x) sz) := by
  refine mo (QA := fun A => va_Qv (fun (u : TR) => u = fnX4_set x a0 a1) (AT D (tz cI cJ cP) A (fun (u : TR) => (wR cI cJ cP ad u))) A) (by decide) (Nat.le_of_ble_eq_true rfl) ?_
  intro p e s m below meth c A ls H hx hb hr hml hown hG hlocks hnm hA hS hP hK hD hl hN
  have hown : s.vm.findClass RX4 = some m.cls := hown
  have hl : lv_has ls 4 [(0, .ref (ad 0)), (1, .int a0), (2, .long a1)] := hl
  refine lv_iload_n hx hb dX4_set_0 rfl (lv_at hl 1 rfl) ?_
  refine lv_if_lt (tgt := 10) hx hb dX4_set_1 (by decide) (fun h9 => absurd h9 (nn_i10 g0)) (fun _ => ?_)
  refine lv_iload_n hx hb dX4_set_4 rfl (lv_at hl 1 rfl) ?_
  refine lv_bipush (v := 10) hx hb dX4_set_5 (by decide) ?_
  refine lv_icmp_le (tgt := 18) hx hb dX4_set_7 (by decide) (fun _ => ?_) (fun h9 => absurd (leK_i10 g0 (by decide)) h9)
  refine lv_iload_n hx hb dX4_set_18 rfl (lv_at hl 1 rfl) ?_
  refine lv_if_ne (tgt := 34) hx hb dX4_set_19 (by decide) (fun h1 => ?_) (fun h1 => ?_)
  · refine lv_iload_n hx hb dX4_set_34 rfl (lv_at hl 1 rfl) ?_
    refine lv_iconst (v := 1) hx hb dX4_set_35 (by decide) ?_
    refine lv_icmp_ne (tgt := 51) hx hb dX4_set_36 (by decide) (fun h2 => ?_) (fun h2 => ?_)
    · refine lv_iload_n hx hb dX4_set_51 rfl (lv_at hl 1 rfl) ?_
      refine lv_iconst (v := 5) hx hb dX4_set_52 (by decide) ?_
      refine lv_icmp_gt (tgt := 74) hx hb dX4_set_53 (by decide) (fun h3 => ?_) (fun h3 => ?_)
      · refine lv_iload_n hx hb dX4_set_74 rfl (lv_at hl 1 rfl) ?_
        refine lv_bipush (v := 9) hx hb dX4_set_75 (by decide) ?_
        refine lv_icmp_gt (tgt := 96) hx hb dX4_set_77 (by decide) (fun h4 => ?_) (fun h4 => ?_)
        · refine lv_aload_n hx hb dX4_set_96 rfl (lv_at hl 0 rfl) ?_
          refine va_get (D := D) (ci := 4) (v := .ref (ad 19)) hx hb hG inX4 hown hK hP 0 rfl rfl 5 (by decide) (hG _ kw87) (fun _ h9 => h9) rfl dX4_set_97 ?_
          refine lv_lload_n hx hb dX4_set_100 rfl (lv_at hl 2 rfl) ?_
          refine kVv (As := [.long (a1)]) (rest := []) (W' := (fun u5 => (wR cI cJ cP ad (x.1, x.2.1, x.2.2.1, x.2.2.2.1, u5, x.2.2.2.2.2.1, x.2.2.2.2.2.2.1, x.2.2.2.2.2.2.2)))) hx hb hml hown hG hl (okX2_takeFrom l D cI cJ cP (ad 19) H.size x.2.2.2.2.1 a1 hI.2.2.2.2.1) (cV 1 hG kw154 kw155 kw156 kw157 kw99 hdX2_takeFrom ⟨by decide, by decide⟩) 19 2 rfl rfl hK hP hD hS hA hN [19] rfl rfl rfl (fun _ => rfl) (fun _ => rfl) rfl rfl (Nat.le_of_ble_eq_true rfl) dX4_set_101 ⟨Nat.zero_le _, Nat.zero_le _⟩ (fun u5 q5 H locs hP hD hS => ?_)
          have j5 : ivX2_takeFromP u5 := by rw [q5]; exact ivX2_takeFrom x.2.2.2.2.1 a1 hI.2.2.2.2.1
          exact retv (u := (x.1, x.2.1, x.2.2.1, x.2.2.2.1, u5, x.2.2.2.2.2.1, x.2.2.2.2.2.2.1, x.2.2.2.2.2.2.2)) hx hb hr hlocks hK hP hD hS dX4_set_104 (by unfold fnX4_set; (try dsimp only); rw [if_neg h1]; rw [if_neg h2]; rw [if_pos h3]; rw [if_pos h4]; rw [← q5]; (try dsimp only); (try exact rfl))
        · refine lv_aload_n hx hb dX4_set_80 rfl (lv_at hl 0 rfl) ?_
          refine va_get (D := D) (ci := 4) (v := .ref (ad 14)) hx hb hG inX4 hown hK hP 0 rfl rfl 4 (by decide) (hG _ kw149) (fun _ h9 => h9) rfl dX4_set_81 ?_
          refine lv_iload_n hx hb dX4_set_84 rfl (lv_at hl 1 rfl) ?_
          refine lv_bipush (v := 6) hx hb dX4_set_85 (by decide) ?_
          refine lv_isub hx hb dX4_set_87 ?_
          by_cases h6 : (a0 - (6 : Int32)) = (0 : Int32)
          · refine gq (D := D) (j := 0) (x := ad 15) hx hb hK hP 14 2 rfl rfl (by rw [h6]; exact inL (by decide)) (by rw [h6]; decide) rfl dX4_set_88 ?_
            refine lv_lload_n hx hb dX4_set_89 rfl (lv_at hl 2 rfl) ?_
            refine kVv (As := [.long (a1)]) (rest := []) (W' := (fun u7 => (wR cI cJ cP ad (x.1, x.2.1, x.2.2.1, (u7, x.2.2.2.1.2.1, x.2.2.2.1.2.2.1, x.2.2.2.1.2.2.2), x.2.2.2.2.1, x.2.2.2.2.2.1, x.2.2.2.2.2.2.1, x.2.2.2.2.2.2.2)))) hx hb hml hown hG hl (okX2_takeFrom l D cI cJ cP (ad 15) H.size x.2.2.2.1.1 a1 hI.2.2.2.1.1) (cV 1 hG kw154 kw155 kw156 kw157 kw99 hdX2_takeFrom ⟨by decide, by decide⟩) 15 2 rfl rfl hK hP hD hS hA hN [15] rfl rfl rfl (fun _ => rfl) (fun _ => rfl) rfl rfl (Nat.le_of_ble_eq_true rfl) dX4_set_90 ⟨Nat.zero_le _, Nat.zero_le _⟩ (fun u7 q7 H locs hP hD hS => ?_)
            have j7 : ivX2_takeFromP u7 := by rw [q7]; exact ivX2_takeFrom x.2.2.2.1.1 a1 hI.2.2.2.1.1
            refine lv_goto (tgt := 104) hx hb dX4_set_93 (by decide) ?_
            exact retv (u := (x.1, x.2.1, x.2.2.1, (u7, x.2.2.2.1.2.1, x.2.2.2.1.2.2.1, x.2.2.2.1.2.2.2), x.2.2.2.2.1, x.2.2.2.2.2.1, x.2.2.2.2.2.2.1, x.2.2.2.2.2.2.2)) hx hb hr hlocks hK hP hD hS dX4_set_104 (by unfold fnX4_set; (try dsimp only); rw [if_neg h1]; rw [if_neg h2]; rw [if_pos h3]; rw [if_neg h4]; rw [if_pos h6]; rw [← q7]; (try dsimp only); (try exact rfl))
          by_cases h8 : (a0 - (6 : Int32)) = (1 : Int32)
          · refine gq (D := D) (j := 1) (x := ad 16) hx hb hK hP 14 2 rfl rfl (by rw [h8]; exact inL (by decide)) (by rw [h8]; decide) rfl dX4_set_88 ?_
            refine lv_lload_n hx hb dX4_set_89 rfl (lv_at hl 2 rfl) ?_
            refine kVv (As := [.long (a1)]) (rest := []) (W' := (fun u9 => (wR cI cJ cP ad (x.1, x.2.1, x.2.2.1, (x.2.2.2.1.1, u9, x.2.2.2.1.2.2.1, x.2.2.2.1.2.2.2), x.2.2.2.2.1, x.2.2.2.2.2.1, x.2.2.2.2.2.2.1, x.2.2.2.2.2.2.2)))) hx hb hml hown hG hl (okX2_takeFrom l D cI cJ cP (ad 16) H.size x.2.2.2.1.2.1 a1 hI.2.2.2.1.2.1) (cV 1 hG kw154 kw155 kw156 kw157 kw99 hdX2_takeFrom ⟨by decide, by decide⟩) 16 2 rfl rfl hK hP hD hS hA hN [16] rfl rfl rfl (fun _ => rfl) (fun _ => rfl) rfl rfl (Nat.le_of_ble_eq_true rfl) dX4_set_90 ⟨Nat.zero_le _, Nat.zero_le _⟩ (fun u9 q9 H locs hP hD hS => ?_)
            have j9 : ivX2_takeFromP u9 := by rw [q9]; exact ivX2_takeFrom x.2.2.2.1.2.1 a1 hI.2.2.2.1.2.1
            refine lv_goto (tgt := 104) hx hb dX4_set_93 (by decide) ?_
            exact retv (u := (x.1, x.2.1, x.2.2.1, (x.2.2.2.1.1, u9, x.2.2.2.1.2.2.1, x.2.2.2.1.2.2.2), x.2.2.2.2.1, x.2.2.2.2.2.1, x.2.2.2.2.2.2.1, x.2.2.2.2.2.2.2)) hx hb hr hlocks hK hP hD hS dX4_set_104 (by unfold fnX4_set; (try dsimp only); rw [if_neg h1]; rw [if_neg h2]; rw [if_pos h3]; rw [if_neg h4]; rw [if_neg h6]; rw [if_pos h8]; rw [← q9]; (try dsimp only); (try exact rfl))
          by_cases h10 : (a0 - (6 : Int32)) = (2 : Int32)
          · refine gq (D := D) (j := 2) (x := ad 17) hx hb hK hP 14 2 rfl rfl (by rw [h10]; exact inL (by decide)) (by rw [h10]; decide) rfl dX4_set_88 ?_
            refine lv_lload_n hx hb dX4_set_89 rfl (lv_at hl 2 rfl) ?_
            refine kVv (As := [.long (a1)]) (rest := []) (W' := (fun u11 => (wR cI cJ cP ad (x.1, x.2.1, x.2.2.1, (x.2.2.2.1.1, x.2.2.2.1.2.1, u11, x.2.2.2.1.2.2.2), x.2.2.2.2.1, x.2.2.2.2.2.1, x.2.2.2.2.2.2.1, x.2.2.2.2.2.2.2)))) hx hb hml hown hG hl (okX2_takeFrom l D cI cJ cP (ad 17) H.size x.2.2.2.1.2.2.1 a1 hI.2.2.2.1.2.2.1) (cV 1 hG kw154 kw155 kw156 kw157 kw99 hdX2_takeFrom ⟨by decide, by decide⟩) 17 2 rfl rfl hK hP hD hS hA hN [17] rfl rfl rfl (fun _ => rfl) (fun _ => rfl) rfl rfl (Nat.le_of_ble_eq_true rfl) dX4_set_90 ⟨Nat.zero_le _, Nat.zero_le _⟩ (fun u11 q11 H locs hP hD hS => ?_)
            have j11 : ivX2_takeFromP u11 := by rw [q11]; exact ivX2_takeFrom x.2.2.2.1.2.2.1 a1 hI.2.2.2.1.2.2.1
            refine lv_goto (tgt := 104) hx hb dX4_set_93 (by decide) ?_
            exact retv (u := (x.1, x.2.1, x.2.2.1, (x.2.2.2.1.1, x.2.2.2.1.2.1, u11, x.2.2.2.1.2.2.2), x.2.2.2.2.1, x.2.2.2.2.2.1, x.2.2.2.2.2.2.1, x.2.2.2.2.2.2.2)) hx hb hr hlocks hK hP hD hS dX4_set_104 (by unfold fnX4_set; (try dsimp only); rw [if_neg h1]; rw [if_neg h2]; rw [if_pos h3]; rw [if_neg h4]; rw [if_neg h6]; rw [if_neg h8]; rw [if_pos h10]; rw [← q11]; (try dsimp only); (try exact rfl))
          have h12 : (a0 - (6 : Int32)) = (3 : Int32) := c4l (kp g0 (Int32.not_le.mpr h3) (Int32.not_lt.mp h4)) h6 h8 h10
          refine gq (D := D) (j := 3) (x := ad 18) hx hb hK hP 14 2 rfl rfl (by rw [h12]; exact inL (by decide)) (by rw [h12]; decide) rfl dX4_set_88 ?_
          refine lv_lload_n hx hb dX4_set_89 rfl (lv_at hl 2 rfl) ?_
          refine kVv (As := [.long (a1)]) (rest := []) (W' := (fun u13 => (wR cI cJ cP ad (x.1, x.2.1, x.2.2.1, (x.2.2.2.1.1, x.2.2.2.1.2.1, x.2.2.2.1.2.2.1, u13), x.2.2.2.2.1, x.2.2.2.2.2.1, x.2.2.2.2.2.2.1, x.2.2.2.2.2.2.2)))) hx hb hml hown hG hl (okX2_takeFrom l D cI cJ cP (ad 18) H.size x.2.2.2.1.2.2.2 a1 hI.2.2.2.1.2.2.2) (cV 1 hG kw154 kw155 kw156 kw157 kw99 hdX2_takeFrom ⟨by decide, by decide⟩) 18 2 rfl rfl hK hP hD hS hA hN [18] rfl rfl rfl (fun _ => rfl) (fun _ => rfl) rfl rfl (Nat.le_of_ble_eq_true rfl) dX4_set_90 ⟨Nat.zero_le _, Nat.zero_le _⟩ (fun u13 q13 H locs hP hD hS => ?_)
          have j13 : ivX2_takeFromP u13 := by rw [q13]; exact ivX2_takeFrom x.2.2.2.1.2.2.2 a1 hI.2.2.2.1.2.2.2
          refine lv_goto (tgt := 104) hx hb dX4_set_93 (by decide) ?_
          exact retv (u := (x.1, x.2.1, x.2.2.1, (x.2.2.2.1.1, x.2.2.2.1.2.1, x.2.2.2.1.2.2.1, u13), x.2.2.2.2.1, x.2.2.2.2.2.1, x.2.2.2.2.2.2.1, x.2.2.2.2.2.2.2)) hx hb hr hlocks hK hP hD hS dX4_set_104 (by unfold fnX4_set; (try dsimp only); rw [if_neg h1]; rw [if_neg h2]; rw [if_pos h3]; rw [if_neg h4]; rw [if_neg h6]; rw [if_neg h8]; rw [if_neg h10]; rw [← q13]; (try dsimp only); (try exact rfl))
      · refine lv_aload_n hx hb dX4_set_56 rfl (lv_at hl 0 rfl) ?_
        refine va_get (D := D) (ci := 4) (v := .ref (ad 13)) hx hb hG inX4 hown hK hP 0 rfl rfl 3 (by decide) (hG _ kw134) (fun _ h9 => h9) rfl dX4_set_57 ?_
        refine lv_iload_n hx hb dX4_set_60 rfl (lv_at hl 1 rfl) ?_
        refine lv_iconst (v := 2) hx hb dX4_set_61 (by decide) ?_
        refine lv_isub hx hb dX4_set_62 ?_
        refine lv_lload_n hx hb dX4_set_63 rfl (lv_at hl 2 rfl) ?_
        refine lv_iconst (v := 0) hx hb dX4_set_64 (by decide) ?_
        refine lv_bipush (v := 12) hx hb dX4_set_65 (by decide) ?_
        refine k0Si (As := [.long (a1), .int ((0 : Int32)), .int ((12 : Int32))]) (rest := [.int ((a0 - (2 : Int32))), .ref (ad 13)]) hx hb hml hown hG hl (okX4_field l D cI cJ cP  H.size a1 (0 : Int32) (12 : Int32) ) (cS 3 hG kw4 kw135 kw6 kw5 hdX4_field ⟨by decide, by decide⟩) hK hP hD hS hA hN rfl rfl (Nat.le_of_ble_eq_true rfl) dX4_set_67 ⟨Nat.zero_le _, Nat.zero_le _⟩ (fun r14 q14 H locs hP hD hS => ?_)
        have j14 : i12 r14 := by rw [q14]; exact (f12X a1 (0 : Int32))
        refine si (D := D) (j := ((a0 - (2 : Int32))).toNatClampNeg) (f := x.2.2.1) (x := r14) (W' := (wR cI cJ cP ad (x.1, x.2.1, (upd x.2.2.1 ((a0 - (2 : Int32))).toNatClampNeg r14), x.2.2.2.1, x.2.2.2.2.1, x.2.2.2.2.2.1, x.2.2.2.2.2.2.1, x.2.2.2.2.2.2.2))) hx hb hK hP hD hS 13 0 rfl rfl (in2 (kx g0 h1 h2 (Int32.not_lt.mp h3))) rfl dX4_set_70 rfl (fun H locs hP hD hS => ?_)
        refine lv_goto (tgt := 104) hx hb dX4_set_71 (by decide) ?_
        exact retv (u := (x.1, x.2.1, (upd x.2.2.1 ((a0 - (2 : Int32))).toNatClampNeg r14), x.2.2.2.1, x.2.2.2.2.1, x.2.2.2.2.2.1, x.2.2.2.2.2.2.1, x.2.2.2.2.2.2.2)) hx hb hr hlocks hK hP hD hS dX4_set_104 (by unfold fnX4_set; (try dsimp only); rw [if_neg h1]; rw [if_neg h2]; rw [if_neg h3]; rw [← q14]; (try dsimp only); (try exact rfl))
    · refine lv_aload_n hx hb dX4_set_39 rfl (lv_at hl 0 rfl) ?_
      refine lv_lload_n hx hb dX4_set_40 rfl (lv_at hl 2 rfl) ?_
      refine lv_ldc2 (v := 68719476735) hx hb hown (hG _ kw133) dX4_set_41 ?_
      refine lv_land hx hb dX4_set_44 ?_
      refine pu (D := D) (ci := 4) (v := .long ((a1 &&& (68719476735 : Int64)))) (ty := .long) (W' := (wR cI cJ cP ad ((x.1.1, (a1 &&& (68719476735 : Int64))), x.2.1, x.2.2.1, x.2.2.2.1, x.2.2.2.2.1, x.2.2.2.2.2.1, x.2.2.2.2.2.2.1, x.2.2.2.2.2.2.2))) hx hb hG inX4 tyX4 tyokX4 nmX4 hown hK hP hD hS 0 rfl rfl 2 (by decide) (hG _ kw91) (fun _ h9 => h9) rfl (by decide +kernel) rfl rfl (Nat.le_of_ble_eq_true rfl) dX4_set_45 rfl (fun H locs hP hD hS => ?_)
      refine lv_goto (tgt := 104) hx hb dX4_set_48 (by decide) ?_
      exact retv (u := ((x.1.1, (a1 &&& (68719476735 : Int64))), x.2.1, x.2.2.1, x.2.2.2.1, x.2.2.2.2.1, x.2.2.2.2.2.1, x.2.2.2.2.2.2.1, x.2.2.2.2.2.2.2)) hx hb hr hlocks hK hP hD hS dX4_set_104 (by unfold fnX4_set; (try dsimp only); rw [if_neg h1]; rw [if_pos h2]; (try exact rfl))
  · refine lv_aload_n hx hb dX4_set_22 rfl (lv_at hl 0 rfl) ?_
    refine lv_lload_n hx hb dX4_set_23 rfl (lv_at hl 2 rfl) ?_
    refine lv_ldc2 (v := 68719476735) hx hb hown (hG _ kw133) dX4_set_24 ?_
    refine lv_land hx hb dX4_set_27 ?_
    refine pu (D := D) (ci := 4) (v := .long ((a1 &&& (68719476735 : Int64)))) (ty := .long) (W' := (wR cI cJ cP ad (((a1 &&& (68719476735 : Int64)), x.1.2), x.2.1, x.2.2.1, x.2.2.2.1, x.2.2.2.2.1, x.2.2.2.2.2.1, x.2.2.2.2.2.2.1, x.2.2.2.2.2.2.2))) hx hb hG inX4 tyX4 tyokX4 nmX4 hown hK hP hD hS 0 rfl rfl 1 (by decide) (hG _ kw90) (fun _ h9 => h9) rfl (by decide +kernel) rfl rfl (Nat.le_of_ble_eq_true rfl) dX4_set_28 rfl (fun H locs hP hD hS => ?_)
    refine lv_goto (tgt := 104) hx hb dX4_set_31 (by decide) ?_
    exact retv (u := (((a1 &&& (68719476735 : Int64)), x.1.2), x.2.1, x.2.2.1, x.2.2.2.1, x.2.2.2.2.1, x.2.2.2.2.2.1, x.2.2.2.2.2.2.1, x.2.2.2.2.2.2.2)) hx hb hr hlocks hK hP hD hS dX4_set_104 (by unfold fnX4_set; (try dsimp only); rw [if_pos h1]; (try exact rfl))
def fnX4_get (x : TR) (a0 : Int32) : Int64 :=
  if a0 = (0 : Int32) then
   x.1.1
  else
   if a0 = (1 : Int32) then
    x.1.2
   else
    if (5 : Int32) < a0 then
     if (9 : Int32) < a0 then
      let p5 := fnX2_asWord x.2.2.2.2.1
      p5
     else
      if (a0 - (6 : Int32)) = (0 : Int32) then
       let p7 := fnX2_asWord x.2.2.2.1.1
       p7
      else
       if (a0 - (6 : Int32)) = (1 : Int32) then
        let p9 := fnX2_asWord x.2.2.2.1.2.1
        p9
       else
        if (a0 - (6 : Int32)) = (2 : Int32) then
         let p11 := fnX2_asWord x.2.2.2.1.2.2.1
         p11
        else
         let p13 := fnX2_asWord x.2.2.2.1.2.2.2
         p13
    else
     ((x.2.2.1 ((a0 - (2 : Int32))).toNatClampNeg)).toInt64
set_option maxRecDepth 100000 in
set_option maxHeartbeats 4000000 in
theorem okX4_get (l : Launch) (D : va_G) (cI cJ cP : ClassId) (ad : Nat → Nat) (sz : Nat) (x : TR) (a0 : Int32) (hI : iR x) (g0 : i10 a0) : Met l yX4_get (Cond.code yX4_get cX4_get 2 (some .long) :: gG) { frames := 1, cells := 0, slots := 0, locals := 20 } (va_Pc [.ref (ad 0), .int a0] (PRE D (tz cI cJ cP) sz (wR cI cJ cP ad x))) (va_Ql (fun (r : Int64) (_ : Unit) => r = fnX4_get x a0) (AT D (tz cI cJ cP) (va_A (wR cI cJ cP ad x) sz) (fun (_ : Unit) => (wR cI cJ cP ad x))) (va_A (wR cI cJ cP ad x) sz)) 0 0 (va_A (wR cI cJ cP ad x) sz) := by
  refine mo (QA := fun A => va_Ql (fun (r : Int64) (_ : Unit) => r = fnX4_get x a0) (AT D (tz cI cJ cP) A (fun (_ : Unit) => (wR cI cJ cP ad x))) A) (by decide) (Nat.le_of_ble_eq_true rfl) ?_
  intro p e s m below meth c A ls H hx hb hr hml hown hG hlocks hnm hA hS hP hK hD hl hN
  have hown : s.vm.findClass RX4 = some m.cls := hown
  have hl : lv_has ls 2 [(0, .ref (ad 0)), (1, .int a0)] := hl
  refine lv_iload_n hx hb dX4_get_0 rfl (lv_at hl 1 rfl) ?_
  refine lv_if_lt (tgt := 10) hx hb dX4_get_1 (by decide) (fun h9 => absurd h9 (nn_i10 g0)) (fun _ => ?_)
  refine lv_iload_n hx hb dX4_get_4 rfl (lv_at hl 1 rfl) ?_
  refine lv_bipush (v := 10) hx hb dX4_get_5 (by decide) ?_
  refine lv_icmp_le (tgt := 18) hx hb dX4_get_7 (by decide) (fun _ => ?_) (fun h9 => absurd (leK_i10 g0 (by decide)) h9)
  refine lv_iload_n hx hb dX4_get_18 rfl (lv_at hl 1 rfl) ?_
  refine lv_if_ne (tgt := 27) hx hb dX4_get_19 (by decide) (fun h1 => ?_) (fun h1 => ?_)
  · refine lv_iload_n hx hb dX4_get_27 rfl (lv_at hl 1 rfl) ?_
    refine lv_iconst (v := 1) hx hb dX4_get_28 (by decide) ?_
    refine lv_icmp_ne (tgt := 37) hx hb dX4_get_29 (by decide) (fun h2 => ?_) (fun h2 => ?_)
    · refine lv_iload_n hx hb dX4_get_37 rfl (lv_at hl 1 rfl) ?_
      refine lv_iconst (v := 5) hx hb dX4_get_38 (by decide) ?_
      refine lv_icmp_gt (tgt := 52) hx hb dX4_get_39 (by decide) (fun h3 => ?_) (fun h3 => ?_)
      · refine lv_iload_n hx hb dX4_get_52 rfl (lv_at hl 1 rfl) ?_
        refine lv_bipush (v := 9) hx hb dX4_get_53 (by decide) ?_
        refine lv_icmp_gt (tgt := 73) hx hb dX4_get_55 (by decide) (fun h4 => ?_) (fun h4 => ?_)
        · refine lv_aload_n hx hb dX4_get_73 rfl (lv_at hl 0 rfl) ?_
          refine va_get (D := D) (ci := 4) (v := .ref (ad 19)) hx hb hG inX4 hown hK hP 0 rfl rfl 5 (by decide) (hG _ kw87) (fun _ h9 => h9) rfl dX4_get_74 ?_
          refine kVl (As := []) (rest := []) (W' := (fun _ => (wR cI cJ cP ad x))) hx hb hml hown hG hl (okX2_asWord l D cI cJ cP (ad 19) H.size x.2.2.2.2.1 hI.2.2.2.2.1) (cV 0 hG kw181 kw182 kw183 kw184 kw99 hdX2_asWord ⟨by decide, by decide⟩) 19 2 rfl rfl hK hP hD hS hA hN [19] rfl rfl rfl (fun _ => rfl) (fun _ => rfl) rfl rfl (Nat.le_of_ble_eq_true rfl) dX4_get_77 ⟨Nat.zero_le _, Nat.zero_le _⟩ (fun r5 _ q5 H locs hP hD hS => ?_)
          have j5 : ivX2_asWordP r5 := by rw [q5]; exact ivX2_asWord x.2.2.2.2.1 hI.2.2.2.2.1
          exact retl (u := ()) hx hb hr hlocks hK hP hD hS dX4_get_80 (by unfold fnX4_get; (try dsimp only); rw [if_neg h1]; rw [if_neg h2]; rw [if_pos h3]; rw [if_pos h4]; rw [← q5]; (try dsimp only); (try exact rfl))
        · refine lv_aload_n hx hb dX4_get_58 rfl (lv_at hl 0 rfl) ?_
          refine va_get (D := D) (ci := 4) (v := .ref (ad 14)) hx hb hG inX4 hown hK hP 0 rfl rfl 4 (by decide) (hG _ kw149) (fun _ h9 => h9) rfl dX4_get_59 ?_
          refine lv_iload_n hx hb dX4_get_62 rfl (lv_at hl 1 rfl) ?_
          refine lv_bipush (v := 6) hx hb dX4_get_63 (by decide) ?_
          refine lv_isub hx hb dX4_get_65 ?_
          by_cases h6 : (a0 - (6 : Int32)) = (0 : Int32)
          · refine gq (D := D) (j := 0) (x := ad 15) hx hb hK hP 14 2 rfl rfl (by rw [h6]; exact inL (by decide)) (by rw [h6]; decide) rfl dX4_get_66 ?_
            refine kVl (As := []) (rest := []) (W' := (fun _ => (wR cI cJ cP ad x))) hx hb hml hown hG hl (okX2_asWord l D cI cJ cP (ad 15) H.size x.2.2.2.1.1 hI.2.2.2.1.1) (cV 0 hG kw181 kw182 kw183 kw184 kw99 hdX2_asWord ⟨by decide, by decide⟩) 15 2 rfl rfl hK hP hD hS hA hN [15] rfl rfl rfl (fun _ => rfl) (fun _ => rfl) rfl rfl (Nat.le_of_ble_eq_true rfl) dX4_get_67 ⟨Nat.zero_le _, Nat.zero_le _⟩ (fun r7 _ q7 H locs hP hD hS => ?_)
            have j7 : ivX2_asWordP r7 := by rw [q7]; exact ivX2_asWord x.2.2.2.1.1 hI.2.2.2.1.1
            refine lv_goto (tgt := 80) hx hb dX4_get_70 (by decide) ?_
            exact retl (u := ()) hx hb hr hlocks hK hP hD hS dX4_get_80 (by unfold fnX4_get; (try dsimp only); rw [if_neg h1]; rw [if_neg h2]; rw [if_pos h3]; rw [if_neg h4]; rw [if_pos h6]; rw [← q7]; (try dsimp only); (try exact rfl))
          by_cases h8 : (a0 - (6 : Int32)) = (1 : Int32)
          · refine gq (D := D) (j := 1) (x := ad 16) hx hb hK hP 14 2 rfl rfl (by rw [h8]; exact inL (by decide)) (by rw [h8]; decide) rfl dX4_get_66 ?_
            refine kVl (As := []) (rest := []) (W' := (fun _ => (wR cI cJ cP ad x))) hx hb hml hown hG hl (okX2_asWord l D cI cJ cP (ad 16) H.size x.2.2.2.1.2.1 hI.2.2.2.1.2.1) (cV 0 hG kw181 kw182 kw183 kw184 kw99 hdX2_asWord ⟨by decide, by decide⟩) 16 2 rfl rfl hK hP hD hS hA hN [16] rfl rfl rfl (fun _ => rfl) (fun _ => rfl) rfl rfl (Nat.le_of_ble_eq_true rfl) dX4_get_67 ⟨Nat.zero_le _, Nat.zero_le _⟩ (fun r9 _ q9 H locs hP hD hS => ?_)
            have j9 : ivX2_asWordP r9 := by rw [q9]; exact ivX2_asWord x.2.2.2.1.2.1 hI.2.2.2.1.2.1
            refine lv_goto (tgt := 80) hx hb dX4_get_70 (by decide) ?_
            exact retl (u := ()) hx hb hr hlocks hK hP hD hS dX4_get_80 (by unfold fnX4_get; (try dsimp only); rw [if_neg h1]; rw [if_neg h2]; rw [if_pos h3]; rw [if_neg h4]; rw [if_neg h6]; rw [if_pos h8]; rw [← q9]; (try dsimp only); (try exact rfl))
          by_cases h10 : (a0 - (6 : Int32)) = (2 : Int32)
          · refine gq (D := D) (j := 2) (x := ad 17) hx hb hK hP 14 2 rfl rfl (by rw [h10]; exact inL (by decide)) (by rw [h10]; decide) rfl dX4_get_66 ?_
            refine kVl (As := []) (rest := []) (W' := (fun _ => (wR cI cJ cP ad x))) hx hb hml hown hG hl (okX2_asWord l D cI cJ cP (ad 17) H.size x.2.2.2.1.2.2.1 hI.2.2.2.1.2.2.1) (cV 0 hG kw181 kw182 kw183 kw184 kw99 hdX2_asWord ⟨by decide, by decide⟩) 17 2 rfl rfl hK hP hD hS hA hN [17] rfl rfl rfl (fun _ => rfl) (fun _ => rfl) rfl rfl (Nat.le_of_ble_eq_true rfl) dX4_get_67 ⟨Nat.zero_le _, Nat.zero_le _⟩ (fun r11 _ q11 H locs hP hD hS => ?_)
            have j11 : ivX2_asWordP r11 := by rw [q11]; exact ivX2_asWord x.2.2.2.1.2.2.1 hI.2.2.2.1.2.2.1
            refine lv_goto (tgt := 80) hx hb dX4_get_70 (by decide) ?_
            exact retl (u := ()) hx hb hr hlocks hK hP hD hS dX4_get_80 (by unfold fnX4_get; (try dsimp only); rw [if_neg h1]; rw [if_neg h2]; rw [if_pos h3]; rw [if_neg h4]; rw [if_neg h6]; rw [if_neg h8]; rw [if_pos h10]; rw [← q11]; (try dsimp only); (try exact rfl))
          have h12 : (a0 - (6 : Int32)) = (3 : Int32) := c4l (kp g0 (Int32.not_le.mpr h3) (Int32.not_lt.mp h4)) h6 h8 h10
          refine gq (D := D) (j := 3) (x := ad 18) hx hb hK hP 14 2 rfl rfl (by rw [h12]; exact inL (by decide)) (by rw [h12]; decide) rfl dX4_get_66 ?_
          refine kVl (As := []) (rest := []) (W' := (fun _ => (wR cI cJ cP ad x))) hx hb hml hown hG hl (okX2_asWord l D cI cJ cP (ad 18) H.size x.2.2.2.1.2.2.2 hI.2.2.2.1.2.2.2) (cV 0 hG kw181 kw182 kw183 kw184 kw99 hdX2_asWord ⟨by decide, by decide⟩) 18 2 rfl rfl hK hP hD hS hA hN [18] rfl rfl rfl (fun _ => rfl) (fun _ => rfl) rfl rfl (Nat.le_of_ble_eq_true rfl) dX4_get_67 ⟨Nat.zero_le _, Nat.zero_le _⟩ (fun r13 _ q13 H locs hP hD hS => ?_)
          have j13 : ivX2_asWordP r13 := by rw [q13]; exact ivX2_asWord x.2.2.2.1.2.2.2 hI.2.2.2.1.2.2.2
          refine lv_goto (tgt := 80) hx hb dX4_get_70 (by decide) ?_
          exact retl (u := ()) hx hb hr hlocks hK hP hD hS dX4_get_80 (by unfold fnX4_get; (try dsimp only); rw [if_neg h1]; rw [if_neg h2]; rw [if_pos h3]; rw [if_neg h4]; rw [if_neg h6]; rw [if_neg h8]; rw [if_neg h10]; rw [← q13]; (try dsimp only); (try exact rfl))
      · refine lv_aload_n hx hb dX4_get_42 rfl (lv_at hl 0 rfl) ?_
        refine va_get (D := D) (ci := 4) (v := .ref (ad 13)) hx hb hG inX4 hown hK hP 0 rfl rfl 3 (by decide) (hG _ kw134) (fun _ h9 => h9) rfl dX4_get_43 ?_
        refine lv_iload_n hx hb dX4_get_46 rfl (lv_at hl 1 rfl) ?_
        refine lv_iconst (v := 2) hx hb dX4_get_47 (by decide) ?_
        refine lv_isub hx hb dX4_get_48 ?_
        refine gi (D := D) (j := ((a0 - (2 : Int32))).toNatClampNeg) (f := x.2.2.1) hx hb hK hP 13 0 rfl rfl (in2 (kx g0 h1 h2 (Int32.not_lt.mp h3))) rfl dX4_get_49 ?_
        refine lv_i2l hx hb dX4_get_50 rfl ?_
        exact retl (u := ()) hx hb hr hlocks hK hP hD hS dX4_get_51 (by unfold fnX4_get; (try dsimp only); rw [if_neg h1]; rw [if_neg h2]; rw [if_neg h3]; (try exact rfl))
    · refine lv_aload_n hx hb dX4_get_32 rfl (lv_at hl 0 rfl) ?_
      refine va_get (D := D) (ci := 4) (v := .long (x.1.2)) hx hb hG inX4 hown hK hP 0 rfl rfl 2 (by decide) (hG _ kw91) (fun _ h9 => h9) rfl dX4_get_33 ?_
      exact retl (u := ()) hx hb hr hlocks hK hP hD hS dX4_get_36 (by unfold fnX4_get; (try dsimp only); rw [if_neg h1]; rw [if_pos h2]; (try exact rfl))
  · refine lv_aload_n hx hb dX4_get_22 rfl (lv_at hl 0 rfl) ?_
    refine va_get (D := D) (ci := 4) (v := .long (x.1.1)) hx hb hG inX4 hown hK hP 0 rfl rfl 1 (by decide) (hG _ kw90) (fun _ h9 => h9) rfl dX4_get_23 ?_
    exact retl (u := ()) hx hb hr hlocks hK hP hD hS dX4_get_26 (by unfold fnX4_get; (try dsimp only); rw [if_pos h1]; (try exact rfl))
def fnX4_interrupt (x : TR) (a0 : Int32) : TR :=
  (x.1, (x.2.1.1, x.2.1.2.1, x.2.1.2.2.1, x.2.1.2.2.2.1, x.2.1.2.2.2.2.1, x.2.1.2.2.2.2.2.1, (x.2.1.2.2.2.2.2.2 ||| ((1 : Int32) <<< (a0 &&& 31)))), x.2.2.1, x.2.2.2.1, x.2.2.2.2.1, x.2.2.2.2.2.1, x.2.2.2.2.2.2.1, x.2.2.2.2.2.2.2)
abbrev ivX4_interruptP (z : TR) : Prop := iR z
set_option maxRecDepth 100000 in
set_option maxHeartbeats 4000000 in
theorem ivX4_interrupt (x : TR) (a0 : Int32) (hI : iR x) (g0 : i2 a0) : ivX4_interruptP (fnX4_interrupt x a0) := by
  unfold fnX4_interrupt
  try dsimp only
  exact ⟨hI.1, (askp hI.2.1 g0), hI.2.2.1, hI.2.2.2.1, hI.2.2.2.2.1, hI.2.2.2.2.2.1, hI.2.2.2.2.2.2.1, hI.2.2.2.2.2.2.2⟩
set_option maxRecDepth 100000 in
set_option maxHeartbeats 4000000 in
theorem okX4_interrupt (l : Launch) (D : va_G) (cI cJ cP : ClassId) (ad : Nat → Nat) (sz : Nat) (x : TR) (a0 : Int32) (hI : iR x) (g0 : i2 a0) : Met l yX4_interrupt (Cond.code yX4_interrupt cX4_interrupt 2 none :: gG) { frames := 0, cells := 0, slots := 0, locals := 0 } (va_Pc [.ref (ad 0), .int a0] (PRE D (tz cI cJ cP) sz (wR cI cJ cP ad x))) (va_Qv (fun (u : TR) => u = fnX4_interrupt x a0) (AT D (tz cI cJ cP) (va_A (wR cI cJ cP ad x) sz) (fun (u : TR) => (wR cI cJ cP ad u))) (va_A (wR cI cJ cP ad x) sz)) 0 0 (va_A (wR cI cJ cP ad x) sz) := by
  refine mo (QA := fun A => va_Qv (fun (u : TR) => u = fnX4_interrupt x a0) (AT D (tz cI cJ cP) A (fun (u : TR) => (wR cI cJ cP ad u))) A) (by decide) (Nat.le_of_ble_eq_true rfl) ?_
  intro p e s m below meth c A ls H hx hb hr hml hown hG hlocks hnm hA hS hP hK hD hl hN
  have hown : s.vm.findClass RX4 = some m.cls := hown
  have hl : lv_has ls 2 [(0, .ref (ad 0)), (1, .int a0)] := hl
  refine lv_iload_n hx hb dX4_interrupt_0 rfl (lv_at hl 1 rfl) ?_
  refine lv_if_lt (tgt := 9) hx hb dX4_interrupt_1 (by decide) (fun h9 => absurd h9 (nn_i2 g0)) (fun _ => ?_)
  refine lv_iload_n hx hb dX4_interrupt_4 rfl (lv_at hl 1 rfl) ?_
  refine lv_iconst (v := 3) hx hb dX4_interrupt_5 (by decide) ?_
  refine lv_icmp_le (tgt := 17) hx hb dX4_interrupt_6 (by decide) (fun _ => ?_) (fun h9 => absurd (leK_i2 g0 (by decide)) h9)
  refine lv_aload_n hx hb dX4_interrupt_17 rfl (lv_at hl 0 rfl) ?_
  refine lv_dup hx hb dX4_interrupt_18 rfl ?_
  refine va_get (D := D) (ci := 4) (v := .int (x.2.1.2.2.2.2.2.2)) hx hb hG inX4 hown hK hP 0 rfl rfl 14 (by decide) (hG _ kw159) (fun _ h9 => h9) rfl dX4_interrupt_19 ?_
  refine lv_iconst (v := 1) hx hb dX4_interrupt_22 (by decide) ?_
  refine lv_iload_n hx hb dX4_interrupt_23 rfl (lv_at hl 1 rfl) ?_
  refine lv_ishl hx hb dX4_interrupt_24 ?_
  refine lv_ior hx hb dX4_interrupt_25 ?_
  refine pu (D := D) (ci := 4) (v := .int ((x.2.1.2.2.2.2.2.2 ||| ((1 : Int32) <<< (a0 &&& 31))))) (ty := .int) (W' := (wR cI cJ cP ad (x.1, (x.2.1.1, x.2.1.2.1, x.2.1.2.2.1, x.2.1.2.2.2.1, x.2.1.2.2.2.2.1, x.2.1.2.2.2.2.2.1, (x.2.1.2.2.2.2.2.2 ||| ((1 : Int32) <<< (a0 &&& 31)))), x.2.2.1, x.2.2.2.1, x.2.2.2.2.1, x.2.2.2.2.2.1, x.2.2.2.2.2.2.1, x.2.2.2.2.2.2.2))) hx hb hG inX4 tyX4 tyokX4 nmX4 hown hK hP hD hS 0 rfl rfl 14 (by decide) (hG _ kw159) (fun _ h9 => h9) rfl (by decide +kernel) rfl rfl (Nat.le_of_ble_eq_true rfl) dX4_interrupt_26 rfl (fun H locs hP hD hS => ?_)
  exact retv (u := (x.1, (x.2.1.1, x.2.1.2.1, x.2.1.2.2.1, x.2.1.2.2.2.1, x.2.1.2.2.2.2.1, x.2.1.2.2.2.2.2.1, (x.2.1.2.2.2.2.2.2 ||| ((1 : Int32) <<< (a0 &&& 31)))), x.2.2.1, x.2.2.2.1, x.2.2.2.2.1, x.2.2.2.2.2.1, x.2.2.2.2.2.2.1, x.2.2.2.2.2.2.2)) hx hb hr hlocks hK hP hD hS dX4_interrupt_29 (by unfold fnX4_interrupt; (try exact rfl))
def fnX4_reach (x : TR) (a0 : Int32) (a1 : Int32) (a2 : Int32) (a3 : Int32) : Int32 × TR :=
  let p1 := fnX3_locate x.2.2.2.2.2.2.2 a0 a1 a2 a3 (0 : Int32)
  (p1.1, (x.1, x.2.1, x.2.2.1, x.2.2.2.1, x.2.2.2.2.1, x.2.2.2.2.2.1, x.2.2.2.2.2.2.1, p1.2))
abbrev ivX4_reachP (z : Int32 × TR) : Prop := iR z.2
set_option maxRecDepth 100000 in
set_option maxHeartbeats 4000000 in
theorem ivX4_reach (x : TR) (a0 : Int32) (a1 : Int32) (a2 : Int32) (a3 : Int32) (hI : iR x) (g0 : i4 a0) (g1 : i12 a1) (g2 : i3 a2) (g3 : iw a3) : ivX4_reachP (fnX4_reach x a0 a1 a2 a3) := by
  unfold fnX4_reach
  try dsimp only
  have j1 : ivX3_locateP (fnX3_locate x.2.2.2.2.2.2.2 a0 a1 a2 a3 (0 : Int32)) := ivX3_locate x.2.2.2.2.2.2.2 a0 a1 a2 a3 (0 : Int32) hI.2.2.2.2.2.2.2 g0 g1
  generalize fnX3_locate x.2.2.2.2.2.2.2 a0 a1 a2 a3 (0 : Int32) = p1 at j1 ⊢
  exact ⟨hI.1, hI.2.1, hI.2.2.1, hI.2.2.2.1, hI.2.2.2.2.1, hI.2.2.2.2.2.1, hI.2.2.2.2.2.2.1, j1.2⟩
set_option maxRecDepth 100000 in
set_option maxHeartbeats 4000000 in
theorem okX4_reach (l : Launch) (D : va_G) (cI cJ cP : ClassId) (ad : Nat → Nat) (sz : Nat) (x : TR) (a0 : Int32) (a1 : Int32) (a2 : Int32) (a3 : Int32) (hI : iR x) (g0 : i4 a0) (g1 : i12 a1) (g2 : i3 a2) (g3 : iw a3) : Met l yX4_reach (Cond.code yX4_reach cX4_reach 5 (some .int) :: gG) { frames := 3, cells := 0, slots := 0, locals := 82 } (va_Pc [.ref (ad 0), .int a0, .int a1, .int a2, .int a3] (PRE D (tz cI cJ cP) sz (wR cI cJ cP ad x))) (va_Qi (fun (r : Int32) (u : TR) => (r, u) = fnX4_reach x a0 a1 a2 a3) (AT D (tz cI cJ cP) (va_A (wR cI cJ cP ad x) sz) (fun (u : TR) => (wR cI cJ cP ad u))) (va_A (wR cI cJ cP ad x) sz)) 0 0 (va_A (wR cI cJ cP ad x) sz) := by
  refine mo (QA := fun A => va_Qi (fun (r : Int32) (u : TR) => (r, u) = fnX4_reach x a0 a1 a2 a3) (AT D (tz cI cJ cP) A (fun (u : TR) => (wR cI cJ cP ad u))) A) (by decide) (Nat.le_of_ble_eq_true rfl) ?_
  intro p e s m below meth c A ls H hx hb hr hml hown hG hlocks hnm hA hS hP hK hD hl hN
  have hown : s.vm.findClass RX4 = some m.cls := hown
  have hl : lv_has ls 5 [(0, .ref (ad 0)), (1, .int a0), (2, .int a1), (3, .int a2), (4, .int a3)] := hl
  refine lv_iload_n hx hb dX4_reach_0 rfl (lv_at hl 1 rfl) ?_
  refine lv_if_lt (tgt := 10) hx hb dX4_reach_1 (by decide) (fun h9 => absurd h9 (nn_i4 g0)) (fun _ => ?_)
  refine lv_iload_n hx hb dX4_reach_4 rfl (lv_at hl 1 rfl) ?_
  refine lv_bipush (v := 15) hx hb dX4_reach_5 (by decide) ?_
  refine lv_icmp_le (tgt := 18) hx hb dX4_reach_7 (by decide) (fun _ => ?_) (fun h9 => absurd (leK_i4 g0 (by decide)) h9)
  refine lv_iload_n hx hb dX4_reach_18 rfl (lv_at hl 3 rfl) ?_
  refine lv_if_lt (tgt := 50) hx hb dX4_reach_19 (by decide) (fun h9 => absurd h9 (nn_i3 g2)) (fun _ => ?_)
  refine lv_iload_n hx hb dX4_reach_22 rfl (lv_at hl 3 rfl) ?_
  refine lv_bipush (v := 7) hx hb dX4_reach_23 (by decide) ?_
  refine lv_icmp_gt (tgt := 50) hx hb dX4_reach_25 (by decide) (fun h9 => absurd h9 (Int32.not_lt.mpr (leK_i3 g2 (by decide)))) (fun _ => ?_)
  refine lv_iload_n hx hb dX4_reach_28 rfl (lv_at hl 2 rfl) ?_
  refine lv_if_lt (tgt := 50) hx hb dX4_reach_29 (by decide) (fun h9 => absurd h9 (nn_i12 g1)) (fun _ => ?_)
  refine lv_iload_n hx hb dX4_reach_32 rfl (lv_at hl 2 rfl) ?_
  refine lv_sipush (v := 4095) hx hb dX4_reach_33 (by decide) ?_
  refine lv_icmp_gt (tgt := 50) hx hb dX4_reach_36 (by decide) (fun h9 => absurd h9 (Int32.not_lt.mpr (leK_i12 g1 (by decide)))) (fun _ => ?_)
  refine lv_iload hx hb dX4_reach_39 (lv_at hl 4 rfl) ?_
  refine lv_if_lt (tgt := 50) hx hb dX4_reach_41 (by decide) (fun h9 => absurd h9 (nn_iw g3)) (fun _ => ?_)
  refine lv_iload hx hb dX4_reach_44 (lv_at hl 4 rfl) ?_
  refine lv_iconst (v := 2) hx hb dX4_reach_46 (by decide) ?_
  refine lv_icmp_le (tgt := 58) hx hb dX4_reach_47 (by decide) (fun _ => ?_) (fun h9 => absurd (leK_iw g3 (by decide)) h9)
  refine lv_aload_n hx hb dX4_reach_58 rfl (lv_at hl 0 rfl) ?_
  refine va_get (D := D) (ci := 4) (v := .ref (ad 1)) hx hb hG inX4 hown hK hP 0 rfl rfl 0 (by decide) (hG _ kw104) (fun _ h9 => h9) rfl dX4_reach_59 ?_
  refine lv_iload_n hx hb dX4_reach_62 rfl (lv_at hl 1 rfl) ?_
  refine lv_iload_n hx hb dX4_reach_63 rfl (lv_at hl 2 rfl) ?_
  refine lv_iload_n hx hb dX4_reach_64 rfl (lv_at hl 3 rfl) ?_
  refine lv_iload hx hb dX4_reach_65 (lv_at hl 4 rfl) ?_
  refine lv_iconst (v := 0) hx hb dX4_reach_67 (by decide) ?_
  refine kVi (As := [.int (a0), .int (a1), .int (a2), .int (a3), .int ((0 : Int32))]) (rest := []) (W' := (fun u1 => (wR cI cJ cP ad (x.1, x.2.1, x.2.2.1, x.2.2.2.1, x.2.2.2.2.1, x.2.2.2.2.2.1, x.2.2.2.2.2.2.1, u1)))) hx hb hml hown hG hl (okX3_locate l D cI cJ cP (fun i => ad (i + 1)) H.size x.2.2.2.2.2.2.2 a0 a1 a2 a3 (0 : Int32) hI.2.2.2.2.2.2.2 g0 g1) (cV 5 hG kw77 kw234 kw79 kw80 kw60 hdX3_locate ⟨by decide, by decide⟩) 1 3 rfl rfl hK hP hD hS hA hN [1, 2, 3, 4, 5, 6, 7, 8, 9, 10, 11] rfl rfl rfl (fun _ => rfl) (fun _ => rfl) rfl rfl (Nat.le_of_ble_eq_true rfl) dX4_reach_68 ⟨Nat.zero_le _, Nat.zero_le _⟩ (fun r1 u1 q1 H locs hP hD hS => ?_)
  have j1 : ivX3_locateP (r1, u1) := by rw [q1]; exact ivX3_locate x.2.2.2.2.2.2.2 a0 a1 a2 a3 (0 : Int32) hI.2.2.2.2.2.2.2 g0 g1
  exact reti (u := (x.1, x.2.1, x.2.2.1, x.2.2.2.1, x.2.2.2.2.1, x.2.2.2.2.2.1, x.2.2.2.2.2.2.1, u1)) hx hb hr hlocks hK hP hD hS dX4_reach_71 (by unfold fnX4_reach; rw [← q1]; (try dsimp only); (try exact rfl))
