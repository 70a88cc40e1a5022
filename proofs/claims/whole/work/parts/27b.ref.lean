abbrev ivX5_runP (z : Int32 × TM) : Prop := iM z.2
def lpX5_run (a0 : Int32) : Nat → Int32 → TM → Int32 × TM
  | 0, k, u0 => (k, u0)
  | n + 1, k, u0 =>
    if u0.1 = (0 : Int32) then
     if a0 ≤ k then
      (k, u0)
     else
      if u0.2.2.2.2.2.2.2.2.1.2.1 = (0 : Int32) then
       let p4 := fnX5_step u0
       lpX5_run a0 n (k + (1 : Int32)) p4
      else
       (k, u0)
    else
     (k, u0)
theorem lpX5_run_s (a0 : Int32) (n : Nat) (k : Int32) (u0 : TM) : lpX5_run a0 (n + 1) k u0 =
    (if u0.1 = (0 : Int32) then
     if a0 ≤ k then
      (k, u0)
     else
      if u0.2.2.2.2.2.2.2.2.1.2.1 = (0 : Int32) then
       let p4 := fnX5_step u0
       lpX5_run a0 n (k + (1 : Int32)) p4
      else
       (k, u0)
    else
     (k, u0)) := rfl
set_option maxRecDepth 100000 in
set_option maxHeartbeats 4000000 in
theorem ivlpX5_run (a0 : Int32)  : ∀ (n : Nat) (k : Int32) (u0 : TM), iM u0 → ivX5_runP (lpX5_run a0 n k u0) := by
  intro n
  induction n with
  | zero => intro k u0 hI; exact hI
  | succ n ih =>
    intro k u0 hI
    rw [lpX5_run_s]
    try dsimp only
    refine iteI (fun h1 => ?_) (fun h1 => ?_)
    · refine iteI (fun h2 => ?_) (fun h2 => ?_)
      · exact hI
      · refine iteI (fun h3 => ?_) (fun h3 => ?_)
        · have j4 : ivX5_stepP (fnX5_step u0) := ivX5_step u0 hI
          generalize fnX5_step u0 = p4 at j4 ⊢
          exact ih (k + (1 : Int32)) p4 j4
        · exact hI
    · exact hI
def fnX5_run (x : TM) (a0 : Int32) : Int32 × TM :=
  if a0 < (0 : Int32) then
   lpX5_run a0 (a0.toInt.toNat + 1) (0 : Int32) ((1 : Int32), x.2.1, x.2.2.1, x.2.2.2.1, x.2.2.2.2.1, x.2.2.2.2.2.1, x.2.2.2.2.2.2.1, x.2.2.2.2.2.2.2.1, x.2.2.2.2.2.2.2.2.1, x.2.2.2.2.2.2.2.2.2.1, x.2.2.2.2.2.2.2.2.2.2.1, x.2.2.2.2.2.2.2.2.2.2.2.1, x.2.2.2.2.2.2.2.2.2.2.2.2.1, x.2.2.2.2.2.2.2.2.2.2.2.2.2.1, x.2.2.2.2.2.2.2.2.2.2.2.2.2.2)
  else
   if a0 ≤ (100 : Int32) then
    lpX5_run a0 (a0.toInt.toNat + 1) (0 : Int32) ((0 : Int32), x.2.1, x.2.2.1, x.2.2.2.1, x.2.2.2.2.1, x.2.2.2.2.2.1, x.2.2.2.2.2.2.1, x.2.2.2.2.2.2.2.1, x.2.2.2.2.2.2.2.2.1, x.2.2.2.2.2.2.2.2.2.1, x.2.2.2.2.2.2.2.2.2.2.1, x.2.2.2.2.2.2.2.2.2.2.2.1, x.2.2.2.2.2.2.2.2.2.2.2.2.1, x.2.2.2.2.2.2.2.2.2.2.2.2.2.1, x.2.2.2.2.2.2.2.2.2.2.2.2.2.2)
   else
    lpX5_run a0 (a0.toInt.toNat + 1) (0 : Int32) ((1 : Int32), x.2.1, x.2.2.1, x.2.2.2.1, x.2.2.2.2.1, x.2.2.2.2.2.1, x.2.2.2.2.2.2.1, x.2.2.2.2.2.2.2.1, x.2.2.2.2.2.2.2.2.1, x.2.2.2.2.2.2.2.2.2.1, x.2.2.2.2.2.2.2.2.2.2.1, x.2.2.2.2.2.2.2.2.2.2.2.1, x.2.2.2.2.2.2.2.2.2.2.2.2.1, x.2.2.2.2.2.2.2.2.2.2.2.2.2.1, x.2.2.2.2.2.2.2.2.2.2.2.2.2.2)
set_option maxRecDepth 100000 in
set_option maxHeartbeats 4000000 in
theorem ivX5_run (x : TM) (a0 : Int32) (hI : iM x) : ivX5_runP (fnX5_run x a0) := by
  unfold fnX5_run
  try dsimp only
  refine iteI (fun h5 => ?_) (fun h5 => ?_)
  · exact ivlpX5_run a0  (a0.toInt.toNat + 1) (0 : Int32) ((1 : Int32), x.2.1, x.2.2.1, x.2.2.2.1, x.2.2.2.2.1, x.2.2.2.2.2.1, x.2.2.2.2.2.2.1, x.2.2.2.2.2.2.2.1, x.2.2.2.2.2.2.2.2.1, x.2.2.2.2.2.2.2.2.2.1, x.2.2.2.2.2.2.2.2.2.2.1, x.2.2.2.2.2.2.2.2.2.2.2.1, x.2.2.2.2.2.2.2.2.2.2.2.2.1, x.2.2.2.2.2.2.2.2.2.2.2.2.2.1, x.2.2.2.2.2.2.2.2.2.2.2.2.2.2) ⟨hI.1, hI.2.1, hI.2.2.1, hI.2.2.2.1, hI.2.2.2.2.1, hI.2.2.2.2.2.1, hI.2.2.2.2.2.2.1, hI.2.2.2.2.2.2.2⟩
  · refine iteI (fun h6 => ?_) (fun h6 => ?_)
    · exact ivlpX5_run a0  (a0.toInt.toNat + 1) (0 : Int32) ((0 : Int32), x.2.1, x.2.2.1, x.2.2.2.1, x.2.2.2.2.1, x.2.2.2.2.2.1, x.2.2.2.2.2.2.1, x.2.2.2.2.2.2.2.1, x.2.2.2.2.2.2.2.2.1, x.2.2.2.2.2.2.2.2.2.1, x.2.2.2.2.2.2.2.2.2.2.1, x.2.2.2.2.2.2.2.2.2.2.2.1, x.2.2.2.2.2.2.2.2.2.2.2.2.1, x.2.2.2.2.2.2.2.2.2.2.2.2.2.1, x.2.2.2.2.2.2.2.2.2.2.2.2.2.2) ⟨hI.1, hI.2.1, hI.2.2.1, hI.2.2.2.1, hI.2.2.2.2.1, hI.2.2.2.2.2.1, hI.2.2.2.2.2.2.1, hI.2.2.2.2.2.2.2⟩
    · exact ivlpX5_run a0  (a0.toInt.toNat + 1) (0 : Int32) ((1 : Int32), x.2.1, x.2.2.1, x.2.2.2.1, x.2.2.2.2.1, x.2.2.2.2.2.1, x.2.2.2.2.2.2.1, x.2.2.2.2.2.2.2.1, x.2.2.2.2.2.2.2.2.1, x.2.2.2.2.2.2.2.2.2.1, x.2.2.2.2.2.2.2.2.2.2.1, x.2.2.2.2.2.2.2.2.2.2.2.1, x.2.2.2.2.2.2.2.2.2.2.2.2.1, x.2.2.2.2.2.2.2.2.2.2.2.2.2.1, x.2.2.2.2.2.2.2.2.2.2.2.2.2.2) ⟨hI.1, hI.2.1, hI.2.2.1, hI.2.2.2.1, hI.2.2.2.2.1, hI.2.2.2.2.2.1, hI.2.2.2.2.2.2.1, hI.2.2.2.2.2.2.2⟩
set_option maxRecDepth 100000 in
set_option maxHeartbeats 4000000 in
theorem okX5_run (l : Launch) (D : va_G) (cI cJ cP : ClassId) (ad : Nat → Nat) (sz : Nat) (x : TM) (a0 : Int32) (hI : iM x) : Met l yX5_run (Cond.code yX5_run cX5_run 3 (some .int) :: gG) { frames := 8, cells := 0, slots := 0, locals := 198 } (va_Pc [.ref (ad 0), .int a0] (PRE D (tz cI cJ cP) sz (wM cI cJ ad x))) (va_Qi (fun (r : Int32) (u : TM) => (r, u) = fnX5_run x a0) (AT D (tz cI cJ cP) (va_A (wM cI cJ ad x) sz) (fun (u : TM) => (wM cI cJ ad u))) (va_A (wM cI cJ ad x) sz)) 0 0 (va_A (wM cI cJ ad x) sz) := by
  refine mo (QA := fun A => va_Qi (fun (r : Int32) (u : TM) => (r, u) = fnX5_run x a0) (AT D (tz cI cJ cP) A (fun (u : TM) => (wM cI cJ ad u))) A) (by decide) (Nat.le_of_ble_eq_true rfl) ?_
  intro p e s m below meth c A ls H hx hb hr hml hown hG hlocks hnm hA hS hP hK hD hl hN
  have hown : s.vm.findClass RX5 = some m.cls := hown
  have hl : lv_has ls 3 [(0, .ref (ad 0)), (1, .int a0)] := hl
  have loop21 : ∀ (n : Nat) (k : Int32) (u0 : TM) (H : Heap) (locs : List Loc) (ls : Array Slot), (a0.toInt - k.toInt).toNat < n → iM u0 → 0 ≤ k.toInt → va_P D vwCl (wM cI cJ ad u0) H → va_D A (wM cI cJ ad u0) → va_S A s.heap H locs → lv_has ls 3 [(2, .int (k)), (0, .ref (ad 0)), (1, .int (a0))] → fnX5_run x a0 = lpX5_run a0 n k u0 → W p l e { frames := 8, cells := 0, slots := 0, locals := 198 } s m ([.ref (ad 0), .int a0]).toArray below meth c H locs 0 0 (MQ below (va_Qi (fun (r : Int32) (u : TM) => (r, u) = fnX5_run x a0) (AT D (tz cI cJ cP) A (fun (u : TM) => (wM cI cJ ad u))) A) ([.ref (ad 0), .int a0]).toArray s 0 0 A) (F0 m 21 ls []) := by
    intro n
    induction n with
    | zero => intro k u0 H locs ls hn; exact absurd hn (Nat.not_lt_zero _)
    | succ n ih =>
      intro k u0 H locs ls hn hI hk hP hD hS hl hE
      refine lv_aload_n hx hb dX5_run_21 rfl (lv_at hl 1 rfl) ?_
      refine va_get (D := D) (ci := 5) (v := .int (u0.1)) hx hb hG inX5 hown hK hP 0 rfl rfl 0 (by decide) (hG _ kw241) (fun _ h9 => h9) rfl dX5_run_22 ?_
      refine lv_if_ne (tgt := 50) hx hb dX5_run_25 (by decide) (fun h1 => ?_) (fun h1 => ?_)
      · refine lv_iload_n hx hb dX5_run_50 rfl (lv_at hl 0 rfl) ?_
        exact reti (u := u0) hx hb hr hlocks hK hP hD hS dX5_run_51 (by rw [hE, lpX5_run_s]; (try dsimp only); rw [if_neg h1]; (try exact rfl))
      · refine lv_iload_n hx hb dX5_run_28 rfl (lv_at hl 0 rfl) ?_
        refine lv_iload_n hx hb dX5_run_29 rfl (lv_at hl 2 rfl) ?_
        refine lv_icmp_ge (tgt := 50) hx hb dX5_run_30 (by decide) (fun h2 => ?_) (fun h2 => ?_)
        · refine lv_iload_n hx hb dX5_run_50 rfl (lv_at hl 0 rfl) ?_
          exact reti (u := u0) hx hb hr hlocks hK hP hD hS dX5_run_51 (by rw [hE, lpX5_run_s]; (try dsimp only); rw [if_pos h1]; rw [if_pos h2]; (try exact rfl))
        · refine lv_aload_n hx hb dX5_run_33 rfl (lv_at hl 1 rfl) ?_
          refine va_get (D := D) (ci := 5) (v := .int (u0.2.2.2.2.2.2.2.2.1.2.1)) hx hb hG inX5 hown hK hP 0 rfl rfl 19 (by decide) (hG _ kw315) (fun _ h9 => h9) rfl dX5_run_34 ?_
          refine lv_if_ne (tgt := 50) hx hb dX5_run_37 (by decide) (fun h3 => ?_) (fun h3 => ?_)
          · refine lv_iload_n hx hb dX5_run_50 rfl (lv_at hl 0 rfl) ?_
            exact reti (u := u0) hx hb hr hlocks hK hP hD hS dX5_run_51 (by rw [hE, lpX5_run_s]; (try dsimp only); rw [if_pos h1]; rw [if_neg h2]; rw [if_neg h3]; (try exact rfl))
          · refine lv_aload_n hx hb dX5_run_40 rfl (lv_at hl 1 rfl) ?_
            refine kFv (As := []) (rest := []) hx hb hml hown hG hl (okX5_step l D cI cJ cP ad H.size u0 hI) (cV 0 hG kw365 kw366 kw367 kw368 kw238 hdX5_step ⟨by decide, by decide⟩) 0 5 rfl rfl hK hP hD hS hA hN rfl rfl (Nat.le_of_ble_eq_true rfl) dX5_run_41 ⟨Nat.zero_le _, Nat.zero_le _⟩ (fun u4 q4 H locs hP hD hS => ?_)
            have j4 : ivX5_stepP u4 := by rw [q4]; exact ivX5_step u0 hI
            refine lv_iinc (k := 0) (v := (k + (1 : Int32))) (lv' := [(2, .int ((k + (1 : Int32)))), (0, .ref (ad 0)), (1, .int (a0))]) hx hb dX5_run_44 hl rfl (by rfl) (by decide) rfl (fun ls hl => ?_)
            refine lv_goto (tgt := 21) hx hb dX5_run_47 (by decide) ?_
            exact ih (k + (1 : Int32)) u4 _ _ _ (lpM (Int32.not_le.mp h2) hn) j4 (lpK (Int32.not_le.mp h2) hk) hP hD hS (lv_sub hl [0, 1, 2] rfl) (by rw [hE, lpX5_run_s]; (try dsimp only); rw [if_pos h1]; rw [if_neg h2]; rw [if_pos h3]; rw [← q4]; (try dsimp only); (try exact rfl))
  refine lv_aload_n hx hb dX5_run_0 rfl (lv_at hl 0 rfl) ?_
  refine lv_iload_n hx hb dX5_run_1 rfl (lv_at hl 1 rfl) ?_
  refine lv_if_lt (tgt := 11) hx hb dX5_run_2 (by decide) (fun h5 => ?_) (fun h5 => ?_)
  · refine lv_iconst (v := 1) hx hb dX5_run_11 (by decide) ?_
    refine lv_goto (tgt := 16) hx hb dX5_run_12 (by decide) ?_
    refine pu (D := D) (ci := 5) (v := .int ((1 : Int32))) (ty := .int) (W' := (wM cI cJ ad ((1 : Int32), x.2.1, x.2.2.1, x.2.2.2.1, x.2.2.2.2.1, x.2.2.2.2.2.1, x.2.2.2.2.2.2.1, x.2.2.2.2.2.2.2.1, x.2.2.2.2.2.2.2.2.1, x.2.2.2.2.2.2.2.2.2.1, x.2.2.2.2.2.2.2.2.2.2.1, x.2.2.2.2.2.2.2.2.2.2.2.1, x.2.2.2.2.2.2.2.2.2.2.2.2.1, x.2.2.2.2.2.2.2.2.2.2.2.2.2.1, x.2.2.2.2.2.2.2.2.2.2.2.2.2.2))) hx hb hG inX5 tyX5 tyokX5 nmX5 hown hK hP hD hS 0 rfl rfl 0 (by decide) (hG _ kw241) (fun _ h9 => h9) rfl (by decide +kernel) rfl rfl (Nat.le_of_ble_eq_true rfl) dX5_run_16 rfl (fun H locs hP hD hS => ?_)
    refine lv_iconst (v := 0) hx hb dX5_run_19 (by decide) ?_
    refine lv_istore_n (lv' := [(2, .int ((0 : Int32))), (0, .ref (ad 0)), (1, .int (a0))]) hx hb dX5_run_20 rfl hl (by decide) rfl (fun ls hl => ?_)
    exact loop21 (a0.toInt.toNat + 1) (0 : Int32) ((1 : Int32), x.2.1, x.2.2.1, x.2.2.2.1, x.2.2.2.2.1, x.2.2.2.2.2.1, x.2.2.2.2.2.2.1, x.2.2.2.2.2.2.2.1, x.2.2.2.2.2.2.2.2.1, x.2.2.2.2.2.2.2.2.2.1, x.2.2.2.2.2.2.2.2.2.2.1, x.2.2.2.2.2.2.2.2.2.2.2.1, x.2.2.2.2.2.2.2.2.2.2.2.2.1, x.2.2.2.2.2.2.2.2.2.2.2.2.2.1, x.2.2.2.2.2.2.2.2.2.2.2.2.2.2) _ _ _ (lpR a0) ⟨hI.1, hI.2.1, hI.2.2.1, hI.2.2.2.1, hI.2.2.2.2.1, hI.2.2.2.2.2.1, hI.2.2.2.2.2.2.1, hI.2.2.2.2.2.2.2⟩ (by decide) hP hD hS (lv_sub hl [0, 1, 2] rfl) (by unfold fnX5_run; (try dsimp only); rw [if_pos h5]; (try exact rfl))
  · refine lv_iload_n hx hb dX5_run_5 rfl (lv_at hl 1 rfl) ?_
    refine lv_bipush (v := 100) hx hb dX5_run_6 (by decide) ?_
    refine lv_icmp_le (tgt := 15) hx hb dX5_run_8 (by decide) (fun h6 => ?_) (fun h6 => ?_)
    · refine lv_iconst (v := 0) hx hb dX5_run_15 (by decide) ?_
      refine pu (D := D) (ci := 5) (v := .int ((0 : Int32))) (ty := .int) (W' := (wM cI cJ ad ((0 : Int32), x.2.1, x.2.2.1, x.2.2.2.1, x.2.2.2.2.1, x.2.2.2.2.2.1, x.2.2.2.2.2.2.1, x.2.2.2.2.2.2.2.1, x.2.2.2.2.2.2.2.2.1, x.2.2.2.2.2.2.2.2.2.1, x.2.2.2.2.2.2.2.2.2.2.1, x.2.2.2.2.2.2.2.2.2.2.2.1, x.2.2.2.2.2.2.2.2.2.2.2.2.1, x.2.2.2.2.2.2.2.2.2.2.2.2.2.1, x.2.2.2.2.2.2.2.2.2.2.2.2.2.2))) hx hb hG inX5 tyX5 tyokX5 nmX5 hown hK hP hD hS 0 rfl rfl 0 (by decide) (hG _ kw241) (fun _ h9 => h9) rfl (by decide +kernel) rfl rfl (Nat.le_of_ble_eq_true rfl) dX5_run_16 rfl (fun H locs hP hD hS => ?_)
      refine lv_iconst (v := 0) hx hb dX5_run_19 (by decide) ?_
      refine lv_istore_n (lv' := [(2, .int ((0 : Int32))), (0, .ref (ad 0)), (1, .int (a0))]) hx hb dX5_run_20 rfl hl (by decide) rfl (fun ls hl => ?_)
      exact loop21 (a0.toInt.toNat + 1) (0 : Int32) ((0 : Int32), x.2.1, x.2.2.1, x.2.2.2.1, x.2.2.2.2.1, x.2.2.2.2.2.1, x.2.2.2.2.2.2.1, x.2.2.2.2.2.2.2.1, x.2.2.2.2.2.2.2.2.1, x.2.2.2.2.2.2.2.2.2.1, x.2.2.2.2.2.2.2.2.2.2.1, x.2.2.2.2.2.2.2.2.2.2.2.1, x.2.2.2.2.2.2.2.2.2.2.2.2.1, x.2.2.2.2.2.2.2.2.2.2.2.2.2.1, x.2.2.2.2.2.2.2.2.2.2.2.2.2.2) _ _ _ (lpR a0) ⟨hI.1, hI.2.1, hI.2.2.1, hI.2.2.2.1, hI.2.2.2.2.1, hI.2.2.2.2.2.1, hI.2.2.2.2.2.2.1, hI.2.2.2.2.2.2.2⟩ (by decide) hP hD hS (lv_sub hl [0, 1, 2] rfl) (by unfold fnX5_run; (try dsimp only); rw [if_neg h5]; rw [if_pos h6]; (try exact rfl))
    · refine lv_iconst (v := 1) hx hb dX5_run_11 (by decide) ?_
      refine lv_goto (tgt := 16) hx hb dX5_run_12 (by decide) ?_
      refine pu (D := D) (ci := 5) (v := .int ((1 : Int32))) (ty := .int) (W' := (wM cI cJ ad ((1 : Int32), x.2.1, x.2.2.1, x.2.2.2.1, x.2.2.2.2.1, x.2.2.2.2.2.1, x.2.2.2.2.2.2.1, x.2.2.2.2.2.2.2.1, x.2.2.2.2.2.2.2.2.1, x.2.2.2.2.2.2.2.2.2.1, x.2.2.2.2.2.2.2.2.2.2.1, x.2.2.2.2.2.2.2.2.2.2.2.1, x.2.2.2.2.2.2.2.2.2.2.2.2.1, x.2.2.2.2.2.2.2.2.2.2.2.2.2.1, x.2.2.2.2.2.2.2.2.2.2.2.2.2.2))) hx hb hG inX5 tyX5 tyokX5 nmX5 hown hK hP hD hS 0 rfl rfl 0 (by decide) (hG _ kw241) (fun _ h9 => h9) rfl (by decide +kernel) rfl rfl (Nat.le_of_ble_eq_true rfl) dX5_run_16 rfl (fun H locs hP hD hS => ?_)
      refine lv_iconst (v := 0) hx hb dX5_run_19 (by decide) ?_
      refine lv_istore_n (lv' := [(2, .int ((0 : Int32))), (0, .ref (ad 0)), (1, .int (a0))]) hx hb dX5_run_20 rfl hl (by decide) rfl (fun ls hl => ?_)
      exact loop21 (a0.toInt.toNat + 1) (0 : Int32) ((1 : Int32), x.2.1, x.2.2.1, x.2.2.2.1, x.2.2.2.2.1, x.2.2.2.2.2.1, x.2.2.2.2.2.2.1, x.2.2.2.2.2.2.2.1, x.2.2.2.2.2.2.2.2.1, x.2.2.2.2.2.2.2.2.2.1, x.2.2.2.2.2.2.2.2.2.2.1, x.2.2.2.2.2.2.2.2.2.2.2.1, x.2.2.2.2.2.2.2.2.2.2.2.2.1, x.2.2.2.2.2.2.2.2.2.2.2.2.2.1, x.2.2.2.2.2.2.2.2.2.2.2.2.2.2) _ _ _ (lpR a0) ⟨hI.1, hI.2.1, hI.2.2.1, hI.2.2.2.1, hI.2.2.2.2.1, hI.2.2.2.2.2.1, hI.2.2.2.2.2.2.1, hI.2.2.2.2.2.2.2⟩ (by decide) hP hD hS (lv_sub hl [0, 1, 2] rfl) (by unfold fnX5_run; (try dsimp only); rw [if_neg h5]; rw [if_neg h6]; (try exact rfl))
def fnX5_poke (x : TM) (a0 : Int32) (a1 : Int64) : TM :=
  if a0 < (0 : Int32) then
   ((1 : Int32), x.2.1, x.2.2.1, x.2.2.2.1, x.2.2.2.2.1, x.2.2.2.2.2.1, x.2.2.2.2.2.2.1, x.2.2.2.2.2.2.2.1, x.2.2.2.2.2.2.2.2.1, x.2.2.2.2.2.2.2.2.2.1, x.2.2.2.2.2.2.2.2.2.2.1, x.2.2.2.2.2.2.2.2.2.2.2.1, x.2.2.2.2.2.2.2.2.2.2.2.2.1, x.2.2.2.2.2.2.2.2.2.2.2.2.2.1, x.2.2.2.2.2.2.2.2.2.2.2.2.2.2)
  else
   if a0 ≤ (4095 : Int32) then
    ((0 : Int32), (vp_updL x.2.1 (a0).toNatClampNeg (a1 &&& (68719476735 : Int64))), x.2.2.1, x.2.2.2.1, x.2.2.2.2.1, x.2.2.2.2.2.1, x.2.2.2.2.2.2.1, x.2.2.2.2.2.2.2.1, x.2.2.2.2.2.2.2.2.1, x.2.2.2.2.2.2.2.2.2.1, x.2.2.2.2.2.2.2.2.2.2.1, x.2.2.2.2.2.2.2.2.2.2.2.1, x.2.2.2.2.2.2.2.2.2.2.2.2.1, x.2.2.2.2.2.2.2.2.2.2.2.2.2.1, x.2.2.2.2.2.2.2.2.2.2.2.2.2.2)
   else
    ((1 : Int32), x.2.1, x.2.2.1, x.2.2.2.1, x.2.2.2.2.1, x.2.2.2.2.2.1, x.2.2.2.2.2.2.1, x.2.2.2.2.2.2.2.1, x.2.2.2.2.2.2.2.2.1, x.2.2.2.2.2.2.2.2.2.1, x.2.2.2.2.2.2.2.2.2.2.1, x.2.2.2.2.2.2.2.2.2.2.2.1, x.2.2.2.2.2.2.2.2.2.2.2.2.1, x.2.2.2.2.2.2.2.2.2.2.2.2.2.1, x.2.2.2.2.2.2.2.2.2.2.2.2.2.2)
abbrev ivX5_pokeP (z : TM) : Prop := iM z
set_option maxRecDepth 100000 in
set_option maxHeartbeats 4000000 in
theorem ivX5_poke (x : TM) (a0 : Int32) (a1 : Int64) (hI : iM x) : ivX5_pokeP (fnX5_poke x a0 a1) := by
  unfold fnX5_poke
  try dsimp only
  refine iteI (fun h1 => ?_) (fun h1 => ?_)
  · exact ⟨hI.1, hI.2.1, hI.2.2.1, hI.2.2.2.1, hI.2.2.2.2.1, hI.2.2.2.2.2.1, hI.2.2.2.2.2.2.1, hI.2.2.2.2.2.2.2⟩
  · refine iteI (fun h2 => ?_) (fun h2 => ?_)
    · exact ⟨hI.1, hI.2.1, hI.2.2.1, hI.2.2.2.1, hI.2.2.2.2.1, hI.2.2.2.2.2.1, hI.2.2.2.2.2.2.1, hI.2.2.2.2.2.2.2⟩
    · exact ⟨hI.1, hI.2.1, hI.2.2.1, hI.2.2.2.1, hI.2.2.2.2.1, hI.2.2.2.2.2.1, hI.2.2.2.2.2.2.1, hI.2.2.2.2.2.2.2⟩
set_option maxRecDepth 100000 in
set_option maxHeartbeats 4000000 in
theorem okX5_poke (l : Launch) (D : va_G) (cI cJ cP : ClassId) (ad : Nat → Nat) (sz : Nat) (x : TM) (a0 : Int32) (a1 : Int64) (hI : iM x) : Met l yX5_poke (Cond.code yX5_poke cX5_poke 4 none :: gG) { frames := 0, cells := 0, slots := 0, locals := 0 } (va_Pc [.ref (ad 0), .int a0, .long a1] (PRE D (tz cI cJ cP) sz (wM cI cJ ad x))) (va_Qv (fun (u : TM) => u = fnX5_poke x a0 a1) (AT D (tz cI cJ cP) (va_A (wM cI cJ ad x) sz) (fun (u : TM) => (wM cI cJ ad u))) (va_A (wM cI cJ ad x) sz)) 0 0 (va_A (wM cI cJ ad x) sz) := by
  refine mo (QA := fun A => va_Qv (fun (u : TM) => u = fnX5_poke x a0 a1) (AT D (tz cI cJ cP) A (fun (u : TM) => (wM cI cJ ad u))) A) (by decide) (Nat.le_of_ble_eq_true rfl) ?_
  intro p e s m below meth c A ls H hx hb hr hml hown hG hlocks hnm hA hS hP hK hD hl hN
  have hown : s.vm.findClass RX5 = some m.cls := hown
  have hl : lv_has ls 4 [(0, .ref (ad 0)), (1, .int a0), (2, .long a1)] := hl
  refine lv_aload_n hx hb dX5_poke_0 rfl (lv_at hl 0 rfl) ?_
  refine lv_iload_n hx hb dX5_poke_1 rfl (lv_at hl 1 rfl) ?_
  refine lv_if_lt (tgt := 12) hx hb dX5_poke_2 (by decide) (fun h1 => ?_) (fun h1 => ?_)
  · refine lv_iconst (v := 1) hx hb dX5_poke_12 (by decide) ?_
    refine lv_goto (tgt := 17) hx hb dX5_poke_13 (by decide) ?_
    refine pu (D := D) (ci := 5) (v := .int ((1 : Int32))) (ty := .int) (W' := (wM cI cJ ad ((1 : Int32), x.2.1, x.2.2.1, x.2.2.2.1, x.2.2.2.2.1, x.2.2.2.2.2.1, x.2.2.2.2.2.2.1, x.2.2.2.2.2.2.2.1, x.2.2.2.2.2.2.2.2.1, x.2.2.2.2.2.2.2.2.2.1, x.2.2.2.2.2.2.2.2.2.2.1, x.2.2.2.2.2.2.2.2.2.2.2.1, x.2.2.2.2.2.2.2.2.2.2.2.2.1, x.2.2.2.2.2.2.2.2.2.2.2.2.2.1, x.2.2.2.2.2.2.2.2.2.2.2.2.2.2))) hx hb hG inX5 tyX5 tyokX5 nmX5 hown hK hP hD hS 0 rfl rfl 0 (by decide) (hG _ kw241) (fun _ h9 => h9) rfl (by decide +kernel) rfl rfl (Nat.le_of_ble_eq_true rfl) dX5_poke_17 rfl (fun H locs hP hD hS => ?_)
    refine lv_aload_n hx hb dX5_poke_20 rfl (lv_at hl 0 rfl) ?_
    refine va_get (D := D) (ci := 5) (v := .int ((1 : Int32))) hx hb hG inX5 hown hK hP 0 rfl rfl 0 (by decide) (hG _ kw241) (fun _ h9 => h9) rfl dX5_poke_21 ?_
    refine lv_if_ne (tgt := 38) hx hb dX5_poke_24 (by decide) (fun _ => ?_) (fun h9 => absurd h9 (by decide))
    exact retv (u := ((1 : Int32), x.2.1, x.2.2.1, x.2.2.2.1, x.2.2.2.2.1, x.2.2.2.2.2.1, x.2.2.2.2.2.2.1, x.2.2.2.2.2.2.2.1, x.2.2.2.2.2.2.2.2.1, x.2.2.2.2.2.2.2.2.2.1, x.2.2.2.2.2.2.2.2.2.2.1, x.2.2.2.2.2.2.2.2.2.2.2.1, x.2.2.2.2.2.2.2.2.2.2.2.2.1, x.2.2.2.2.2.2.2.2.2.2.2.2.2.1, x.2.2.2.2.2.2.2.2.2.2.2.2.2.2)) hx hb hr hlocks hK hP hD hS dX5_poke_38 (by unfold fnX5_poke; (try dsimp only); rw [if_pos h1]; (try exact rfl))
  · refine lv_iload_n hx hb dX5_poke_5 rfl (lv_at hl 1 rfl) ?_
    refine lv_sipush (v := 4095) hx hb dX5_poke_6 (by decide) ?_
    refine lv_icmp_le (tgt := 16) hx hb dX5_poke_9 (by decide) (fun h2 => ?_) (fun h2 => ?_)
    · refine lv_iconst (v := 0) hx hb dX5_poke_16 (by decide) ?_
      refine pu (D := D) (ci := 5) (v := .int ((0 : Int32))) (ty := .int) (W' := (wM cI cJ ad ((0 : Int32), x.2.1, x.2.2.1, x.2.2.2.1, x.2.2.2.2.1, x.2.2.2.2.2.1, x.2.2.2.2.2.2.1, x.2.2.2.2.2.2.2.1, x.2.2.2.2.2.2.2.2.1, x.2.2.2.2.2.2.2.2.2.1, x.2.2.2.2.2.2.2.2.2.2.1, x.2.2.2.2.2.2.2.2.2.2.2.1, x.2.2.2.2.2.2.2.2.2.2.2.2.1, x.2.2.2.2.2.2.2.2.2.2.2.2.2.1, x.2.2.2.2.2.2.2.2.2.2.2.2.2.2))) hx hb hG inX5 tyX5 tyokX5 nmX5 hown hK hP hD hS 0 rfl rfl 0 (by decide) (hG _ kw241) (fun _ h9 => h9) rfl (by decide +kernel) rfl rfl (Nat.le_of_ble_eq_true rfl) dX5_poke_17 rfl (fun H locs hP hD hS => ?_)
      refine lv_aload_n hx hb dX5_poke_20 rfl (lv_at hl 0 rfl) ?_
      refine va_get (D := D) (ci := 5) (v := .int ((0 : Int32))) hx hb hG inX5 hown hK hP 0 rfl rfl 0 (by decide) (hG _ kw241) (fun _ h9 => h9) rfl dX5_poke_21 ?_
      refine lv_if_ne (tgt := 38) hx hb dX5_poke_24 (by decide) (fun h9 => absurd (by decide) h9) (fun _ => ?_)
      refine lv_aload_n hx hb dX5_poke_27 rfl (lv_at hl 0 rfl) ?_
      refine va_get (D := D) (ci := 5) (v := .ref (ad 1)) hx hb hG inX5 hown hK hP 0 rfl rfl 1 (by decide) (hG _ kw263) (fun _ h9 => h9) rfl dX5_poke_28 ?_
      refine lv_iload_n hx hb dX5_poke_31 rfl (lv_at hl 1 rfl) ?_
      refine lv_lload_n hx hb dX5_poke_32 rfl (lv_at hl 2 rfl) ?_
      refine lv_ldc2 (v := 68719476735) hx hb hown (hG _ kw288) dX5_poke_33 ?_
      refine lv_land hx hb dX5_poke_36 ?_
      refine sl (D := D) (j := (a0).toNatClampNeg) (f := x.2.1) (x := (a1 &&& (68719476735 : Int64))) (W' := (wM cI cJ ad ((0 : Int32), (vp_updL x.2.1 (a0).toNatClampNeg (a1 &&& (68719476735 : Int64))), x.2.2.1, x.2.2.2.1, x.2.2.2.2.1, x.2.2.2.2.2.1, x.2.2.2.2.2.2.1, x.2.2.2.2.2.2.2.1, x.2.2.2.2.2.2.2.2.1, x.2.2.2.2.2.2.2.2.2.1, x.2.2.2.2.2.2.2.2.2.2.1, x.2.2.2.2.2.2.2.2.2.2.2.1, x.2.2.2.2.2.2.2.2.2.2.2.2.1, x.2.2.2.2.2.2.2.2.2.2.2.2.2.1, x.2.2.2.2.2.2.2.2.2.2.2.2.2.2))) hx hb hK hP hD hS 1 1 rfl rfl (in12 (mkI h1 h2 (by decide))) rfl dX5_poke_37 rfl (fun H locs hP hD hS => ?_)
      exact retv (u := ((0 : Int32), (vp_updL x.2.1 (a0).toNatClampNeg (a1 &&& (68719476735 : Int64))), x.2.2.1, x.2.2.2.1, x.2.2.2.2.1, x.2.2.2.2.2.1, x.2.2.2.2.2.2.1, x.2.2.2.2.2.2.2.1, x.2.2.2.2.2.2.2.2.1, x.2.2.2.2.2.2.2.2.2.1, x.2.2.2.2.2.2.2.2.2.2.1, x.2.2.2.2.2.2.2.2.2.2.2.1, x.2.2.2.2.2.2.2.2.2.2.2.2.1, x.2.2.2.2.2.2.2.2.2.2.2.2.2.1, x.2.2.2.2.2.2.2.2.2.2.2.2.2.2)) hx hb hr hlocks hK hP hD hS dX5_poke_38 (by unfold fnX5_poke; (try dsimp only); rw [if_neg h1]; rw [if_pos h2]; (try exact rfl))
    · refine lv_iconst (v := 1) hx hb dX5_poke_12 (by decide) ?_
      refine lv_goto (tgt := 17) hx hb dX5_poke_13 (by decide) ?_
      refine pu (D := D) (ci := 5) (v := .int ((1 : Int32))) (ty := .int) (W' := (wM cI cJ ad ((1 : Int32), x.2.1, x.2.2.1, x.2.2.2.1, x.2.2.2.2.1, x.2.2.2.2.2.1, x.2.2.2.2.2.2.1, x.2.2.2.2.2.2.2.1, x.2.2.2.2.2.2.2.2.1, x.2.2.2.2.2.2.2.2.2.1, x.2.2.2.2.2.2.2.2.2.2.1, x.2.2.2.2.2.2.2.2.2.2.2.1, x.2.2.2.2.2.2.2.2.2.2.2.2.1, x.2.2.2.2.2.2.2.2.2.2.2.2.2.1, x.2.2.2.2.2.2.2.2.2.2.2.2.2.2))) hx hb hG inX5 tyX5 tyokX5 nmX5 hown hK hP hD hS 0 rfl rfl 0 (by decide) (hG _ kw241) (fun _ h9 => h9) rfl (by decide +kernel) rfl rfl (Nat.le_of_ble_eq_true rfl) dX5_poke_17 rfl (fun H locs hP hD hS => ?_)
      refine lv_aload_n hx hb dX5_poke_20 rfl (lv_at hl 0 rfl) ?_
      refine va_get (D := D) (ci := 5) (v := .int ((1 : Int32))) hx hb hG inX5 hown hK hP 0 rfl rfl 0 (by decide) (hG _ kw241) (fun _ h9 => h9) rfl dX5_poke_21 ?_
      refine lv_if_ne (tgt := 38) hx hb dX5_poke_24 (by decide) (fun _ => ?_) (fun h9 => absurd h9 (by decide))
      exact retv (u := ((1 : Int32), x.2.1, x.2.2.1, x.2.2.2.1, x.2.2.2.2.1, x.2.2.2.2.2.1, x.2.2.2.2.2.2.1, x.2.2.2.2.2.2.2.1, x.2.2.2.2.2.2.2.2.1, x.2.2.2.2.2.2.2.2.2.1, x.2.2.2.2.2.2.2.2.2.2.1, x.2.2.2.2.2.2.2.2.2.2.2.1, x.2.2.2.2.2.2.2.2.2.2.2.2.1, x.2.2.2.2.2.2.2.2.2.2.2.2.2.1, x.2.2.2.2.2.2.2.2.2.2.2.2.2.2)) hx hb hr hlocks hK hP hD hS dX5_poke_38 (by unfold fnX5_poke; (try dsimp only); rw [if_neg h1]; rw [if_neg h2]; (try exact rfl))
def fnX5_peek (x : TM) (a0 : Int32) : Int64 × TM :=
  if a0 < (0 : Int32) then
   ((0 : Int64), ((1 : Int32), x.2.1, x.2.2.1, x.2.2.2.1, x.2.2.2.2.1, x.2.2.2.2.2.1, x.2.2.2.2.2.2.1, x.2.2.2.2.2.2.2.1, x.2.2.2.2.2.2.2.2.1, x.2.2.2.2.2.2.2.2.2.1, x.2.2.2.2.2.2.2.2.2.2.1, x.2.2.2.2.2.2.2.2.2.2.2.1, x.2.2.2.2.2.2.2.2.2.2.2.2.1, x.2.2.2.2.2.2.2.2.2.2.2.2.2.1, x.2.2.2.2.2.2.2.2.2.2.2.2.2.2))
  else
   if a0 ≤ (4095 : Int32) then
    ((x.2.1 (a0).toNatClampNeg), ((0 : Int32), x.2.1, x.2.2.1, x.2.2.2.1, x.2.2.2.2.1, x.2.2.2.2.2.1, x.2.2.2.2.2.2.1, x.2.2.2.2.2.2.2.1, x.2.2.2.2.2.2.2.2.1, x.2.2.2.2.2.2.2.2.2.1, x.2.2.2.2.2.2.2.2.2.2.1, x.2.2.2.2.2.2.2.2.2.2.2.1, x.2.2.2.2.2.2.2.2.2.2.2.2.1, x.2.2.2.2.2.2.2.2.2.2.2.2.2.1, x.2.2.2.2.2.2.2.2.2.2.2.2.2.2))
   else
    ((0 : Int64), ((1 : Int32), x.2.1, x.2.2.1, x.2.2.2.1, x.2.2.2.2.1, x.2.2.2.2.2.1, x.2.2.2.2.2.2.1, x.2.2.2.2.2.2.2.1, x.2.2.2.2.2.2.2.2.1, x.2.2.2.2.2.2.2.2.2.1, x.2.2.2.2.2.2.2.2.2.2.1, x.2.2.2.2.2.2.2.2.2.2.2.1, x.2.2.2.2.2.2.2.2.2.2.2.2.1, x.2.2.2.2.2.2.2.2.2.2.2.2.2.1, x.2.2.2.2.2.2.2.2.2.2.2.2.2.2))
abbrev ivX5_peekP (z : Int64 × TM) : Prop := iM z.2
set_option maxRecDepth 100000 in
set_option maxHeartbeats 4000000 in
theorem ivX5_peek (x : TM) (a0 : Int32) (hI : iM x) : ivX5_peekP (fnX5_peek x a0) := by
  unfold fnX5_peek
  try dsimp only
  refine iteI (fun h1 => ?_) (fun h1 => ?_)
  · exact ⟨hI.1, hI.2.1, hI.2.2.1, hI.2.2.2.1, hI.2.2.2.2.1, hI.2.2.2.2.2.1, hI.2.2.2.2.2.2.1, hI.2.2.2.2.2.2.2⟩
  · refine iteI (fun h2 => ?_) (fun h2 => ?_)
    · exact ⟨hI.1, hI.2.1, hI.2.2.1, hI.2.2.2.1, hI.2.2.2.2.1, hI.2.2.2.2.2.1, hI.2.2.2.2.2.2.1, hI.2.2.2.2.2.2.2⟩
    · exact ⟨hI.1, hI.2.1, hI.2.2.1, hI.2.2.2.1, hI.2.2.2.2.1, hI.2.2.2.2.2.1, hI.2.2.2.2.2.2.1, hI.2.2.2.2.2.2.2⟩
set_option maxRecDepth 100000 in
set_option maxHeartbeats 4000000 in
theorem okX5_peek (l : Launch) (D : va_G) (cI cJ cP : ClassId) (ad : Nat → Nat) (sz : Nat) (x : TM) (a0 : Int32) (hI : iM x) : Met l yX5_peek (Cond.code yX5_peek cX5_peek 2 (some .long) :: gG) { frames := 0, cells := 0, slots := 0, locals := 0 } (va_Pc [.ref (ad 0), .int a0] (PRE D (tz cI cJ cP) sz (wM cI cJ ad x))) (va_Ql (fun (r : Int64) (u : TM) => (r, u) = fnX5_peek x a0) (AT D (tz cI cJ cP) (va_A (wM cI cJ ad x) sz) (fun (u : TM) => (wM cI cJ ad u))) (va_A (wM cI cJ ad x) sz)) 0 0 (va_A (wM cI cJ ad x) sz) := by
  refine mo (QA := fun A => va_Ql (fun (r : Int64) (u : TM) => (r, u) = fnX5_peek x a0) (AT D (tz cI cJ cP) A (fun (u : TM) => (wM cI cJ ad u))) A) (by decide) (Nat.le_of_ble_eq_true rfl) ?_
  intro p e s m below meth c A ls H hx hb hr hml hown hG hlocks hnm hA hS hP hK hD hl hN
  have hown : s.vm.findClass RX5 = some m.cls := hown
  have hl : lv_has ls 2 [(0, .ref (ad 0)), (1, .int a0)] := hl
  refine lv_aload_n hx hb dX5_peek_0 rfl (lv_at hl 0 rfl) ?_
  refine lv_iload_n hx hb dX5_peek_1 rfl (lv_at hl 1 rfl) ?_
  refine lv_if_lt (tgt := 12) hx hb dX5_peek_2 (by decide) (fun h1 => ?_) (fun h1 => ?_)
  · refine lv_iconst (v := 1) hx hb dX5_peek_12 (by decide) ?_
    refine lv_goto (tgt := 17) hx hb dX5_peek_13 (by decide) ?_
    refine pu (D := D) (ci := 5) (v := .int ((1 : Int32))) (ty := .int) (W' := (wM cI cJ ad ((1 : Int32), x.2.1, x.2.2.1, x.2.2.2.1, x.2.2.2.2.1, x.2.2.2.2.2.1, x.2.2.2.2.2.2.1, x.2.2.2.2.2.2.2.1, x.2.2.2.2.2.2.2.2.1, x.2.2.2.2.2.2.2.2.2.1, x.2.2.2.2.2.2.2.2.2.2.1, x.2.2.2.2.2.2.2.2.2.2.2.1, x.2.2.2.2.2.2.2.2.2.2.2.2.1, x.2.2.2.2.2.2.2.2.2.2.2.2.2.1, x.2.2.2.2.2.2.2.2.2.2.2.2.2.2))) hx hb hG inX5 tyX5 tyokX5 nmX5 hown hK hP hD hS 0 rfl rfl 0 (by decide) (hG _ kw241) (fun _ h9 => h9) rfl (by decide +kernel) rfl rfl (Nat.le_of_ble_eq_true rfl) dX5_peek_17 rfl (fun H locs hP hD hS => ?_)
    refine lv_aload_n hx hb dX5_peek_20 rfl (lv_at hl 0 rfl) ?_
    refine va_get (D := D) (ci := 5) (v := .int ((1 : Int32))) hx hb hG inX5 hown hK hP 0 rfl rfl 0 (by decide) (hG _ kw241) (fun _ h9 => h9) rfl dX5_peek_21 ?_
    refine lv_if_ne (tgt := 36) hx hb dX5_peek_24 (by decide) (fun _ => ?_) (fun h9 => absurd h9 (by decide))
    refine lv_lconst (v := 0) hx hb dX5_peek_36 (by decide) ?_
    exact retl (u := ((1 : Int32), x.2.1, x.2.2.1, x.2.2.2.1, x.2.2.2.2.1, x.2.2.2.2.2.1, x.2.2.2.2.2.2.1, x.2.2.2.2.2.2.2.1, x.2.2.2.2.2.2.2.2.1, x.2.2.2.2.2.2.2.2.2.1, x.2.2.2.2.2.2.2.2.2.2.1, x.2.2.2.2.2.2.2.2.2.2.2.1, x.2.2.2.2.2.2.2.2.2.2.2.2.1, x.2.2.2.2.2.2.2.2.2.2.2.2.2.1, x.2.2.2.2.2.2.2.2.2.2.2.2.2.2)) hx hb hr hlocks hK hP hD hS dX5_peek_37 (by unfold fnX5_peek; (try dsimp only); rw [if_pos h1]; (try exact rfl))
  · refine lv_iload_n hx hb dX5_peek_5 rfl (lv_at hl 1 rfl) ?_
    refine lv_sipush (v := 4095) hx hb dX5_peek_6 (by decide) ?_
    refine lv_icmp_le (tgt := 16) hx hb dX5_peek_9 (by decide) (fun h2 => ?_) (fun h2 => ?_)
    · refine lv_iconst (v := 0) hx hb dX5_peek_16 (by decide) ?_
      refine pu (D := D) (ci := 5) (v := .int ((0 : Int32))) (ty := .int) (W' := (wM cI cJ ad ((0 : Int32), x.2.1, x.2.2.1, x.2.2.2.1, x.2.2.2.2.1, x.2.2.2.2.2.1, x.2.2.2.2.2.2.1, x.2.2.2.2.2.2.2.1, x.2.2.2.2.2.2.2.2.1, x.2.2.2.2.2.2.2.2.2.1, x.2.2.2.2.2.2.2.2.2.2.1, x.2.2.2.2.2.2.2.2.2.2.2.1, x.2.2.2.2.2.2.2.2.2.2.2.2.1, x.2.2.2.2.2.2.2.2.2.2.2.2.2.1, x.2.2.2.2.2.2.2.2.2.2.2.2.2.2))) hx hb hG inX5 tyX5 tyokX5 nmX5 hown hK hP hD hS 0 rfl rfl 0 (by decide) (hG _ kw241) (fun _ h9 => h9) rfl (by decide +kernel) rfl rfl (Nat.le_of_ble_eq_true rfl) dX5_peek_17 rfl (fun H locs hP hD hS => ?_)
      refine lv_aload_n hx hb dX5_peek_20 rfl (lv_at hl 0 rfl) ?_
      refine va_get (D := D) (ci := 5) (v := .int ((0 : Int32))) hx hb hG inX5 hown hK hP 0 rfl rfl 0 (by decide) (hG _ kw241) (fun _ h9 => h9) rfl dX5_peek_21 ?_
      refine lv_if_ne (tgt := 36) hx hb dX5_peek_24 (by decide) (fun h9 => absurd (by decide) h9) (fun _ => ?_)
      refine lv_aload_n hx hb dX5_peek_27 rfl (lv_at hl 0 rfl) ?_
      refine va_get (D := D) (ci := 5) (v := .ref (ad 1)) hx hb hG inX5 hown hK hP 0 rfl rfl 1 (by decide) (hG _ kw263) (fun _ h9 => h9) rfl dX5_peek_28 ?_
      refine lv_iload_n hx hb dX5_peek_31 rfl (lv_at hl 1 rfl) ?_
      refine gl (D := D) (j := (a0).toNatClampNeg) (f := x.2.1) hx hb hK hP 1 1 rfl rfl (in12 (mkI h1 h2 (by decide))) rfl dX5_peek_32 ?_
      refine lv_goto (tgt := 37) hx hb dX5_peek_33 (by decide) ?_
      exact retl (u := ((0 : Int32), x.2.1, x.2.2.1, x.2.2.2.1, x.2.2.2.2.1, x.2.2.2.2.2.1, x.2.2.2.2.2.2.1, x.2.2.2.2.2.2.2.1, x.2.2.2.2.2.2.2.2.1, x.2.2.2.2.2.2.2.2.2.1, x.2.2.2.2.2.2.2.2.2.2.1, x.2.2.2.2.2.2.2.2.2.2.2.1, x.2.2.2.2.2.2.2.2.2.2.2.2.1, x.2.2.2.2.2.2.2.2.2.2.2.2.2.1, x.2.2.2.2.2.2.2.2.2.2.2.2.2.2)) hx hb hr hlocks hK hP hD hS dX5_peek_37 (by unfold fnX5_peek; (try dsimp only); rw [if_neg h1]; rw [if_pos h2]; (try exact rfl))
    · refine lv_iconst (v := 1) hx hb dX5_peek_12 (by decide) ?_
      refine lv_goto (tgt := 17) hx hb dX5_peek_13 (by decide) ?_
      refine pu (D := D) (ci := 5) (v := .int ((1 : Int32))) (ty := .int) (W' := (wM cI cJ ad ((1 : Int32), x.2.1, x.2.2.1, x.2.2.2.1, x.2.2.2.2.1, x.2.2.2.2.2.1, x.2.2.2.2.2.2.1, x.2.2.2.2.2.2.2.1, x.2.2.2.2.2.2.2.2.1, x.2.2.2.2.2.2.2.2.2.1, x.2.2.2.2.2.2.2.2.2.2.1, x.2.2.2.2.2.2.2.2.2.2.2.1, x.2.2.2.2.2.2.2.2.2.2.2.2.1, x.2.2.2.2.2.2.2.2.2.2.2.2.2.1, x.2.2.2.2.2.2.2.2.2.2.2.2.2.2))) hx hb hG inX5 tyX5 tyokX5 nmX5 hown hK hP hD hS 0 rfl rfl 0 (by decide) (hG _ kw241) (fun _ h9 => h9) rfl (by decide +kernel) rfl rfl (Nat.le_of_ble_eq_true rfl) dX5_peek_17 rfl (fun H locs hP hD hS => ?_)
      refine lv_aload_n hx hb dX5_peek_20 rfl (lv_at hl 0 rfl) ?_
      refine va_get (D := D) (ci := 5) (v := .int ((1 : Int32))) hx hb hG inX5 hown hK hP 0 rfl rfl 0 (by decide) (hG _ kw241) (fun _ h9 => h9) rfl dX5_peek_21 ?_
      refine lv_if_ne (tgt := 36) hx hb dX5_peek_24 (by decide) (fun _ => ?_) (fun h9 => absurd h9 (by decide))
      refine lv_lconst (v := 0) hx hb dX5_peek_36 (by decide) ?_
      exact retl (u := ((1 : Int32), x.2.1, x.2.2.1, x.2.2.2.1, x.2.2.2.2.1, x.2.2.2.2.2.1, x.2.2.2.2.2.2.1, x.2.2.2.2.2.2.2.1, x.2.2.2.2.2.2.2.2.1, x.2.2.2.2.2.2.2.2.2.1, x.2.2.2.2.2.2.2.2.2.2.1, x.2.2.2.2.2.2.2.2.2.2.2.1, x.2.2.2.2.2.2.2.2.2.2.2.2.1, x.2.2.2.2.2.2.2.2.2.2.2.2.2.1, x.2.2.2.2.2.2.2.2.2.2.2.2.2.2)) hx hb hr hlocks hK hP hD hS dX5_peek_37 (by unfold fnX5_peek; (try dsimp only); rw [if_neg h1]; rw [if_neg h2]; (try exact rfl))
def fnX5_set (x : TM) (a0 : Int32) (a1 : Int64) : TM :=
  if a0 < (0 : Int32) then
   ((1 : Int32), x.2.1, x.2.2.1, x.2.2.2.1, x.2.2.2.2.1, x.2.2.2.2.2.1, x.2.2.2.2.2.2.1, x.2.2.2.2.2.2.2.1, x.2.2.2.2.2.2.2.2.1, x.2.2.2.2.2.2.2.2.2.1, x.2.2.2.2.2.2.2.2.2.2.1, x.2.2.2.2.2.2.2.2.2.2.2.1, x.2.2.2.2.2.2.2.2.2.2.2.2.1, x.2.2.2.2.2.2.2.2.2.2.2.2.2.1, x.2.2.2.2.2.2.2.2.2.2.2.2.2.2)
  else
   if a0 ≤ (10 : Int32) then
    if a0 = (0 : Int32) then
     ((0 : Int32), x.2.1, x.2.2.1, x.2.2.2.1, ((a1 &&& (68719476735 : Int64)), x.2.2.2.2.1.2), x.2.2.2.2.2.1, x.2.2.2.2.2.2.1, x.2.2.2.2.2.2.2.1, x.2.2.2.2.2.2.2.2.1, x.2.2.2.2.2.2.2.2.2.1, x.2.2.2.2.2.2.2.2.2.2.1, x.2.2.2.2.2.2.2.2.2.2.2.1, x.2.2.2.2.2.2.2.2.2.2.2.2.1, x.2.2.2.2.2.2.2.2.2.2.2.2.2.1, x.2.2.2.2.2.2.2.2.2.2.2.2.2.2)
    else
     if a0 = (1 : Int32) then
      ((0 : Int32), x.2.1, x.2.2.1, x.2.2.2.1, (x.2.2.2.2.1.1, (a1 &&& (68719476735 : Int64))), x.2.2.2.2.2.1, x.2.2.2.2.2.2.1, x.2.2.2.2.2.2.2.1, x.2.2.2.2.2.2.2.2.1, x.2.2.2.2.2.2.2.2.2.1, x.2.2.2.2.2.2.2.2.2.2.1, x.2.2.2.2.2.2.2.2.2.2.2.1, x.2.2.2.2.2.2.2.2.2.2.2.2.1, x.2.2.2.2.2.2.2.2.2.2.2.2.2.1, x.2.2.2.2.2.2.2.2.2.2.2.2.2.2)
     else
      if (6 : Int32) ≤ a0 then
       if (10 : Int32) ≤ a0 then
        let p7 := fnX5_bits a1 (24 : Int32) (4 : Int32)
        let p8 := fnX5_bits a1 (0 : Int32) (12 : Int32)
        let p9 := fnX5_bits a1 (21 : Int32) (3 : Int32)
        ((0 : Int32), x.2.1, x.2.2.1, x.2.2.2.1, x.2.2.2.2.1, x.2.2.2.2.2.1, x.2.2.2.2.2.2.1, (p7, p8, p9), x.2.2.2.2.2.2.2.2.1, x.2.2.2.2.2.2.2.2.2.1, x.2.2.2.2.2.2.2.2.2.2.1, x.2.2.2.2.2.2.2.2.2.2.2.1, x.2.2.2.2.2.2.2.2.2.2.2.2.1, x.2.2.2.2.2.2.2.2.2.2.2.2.2.1, x.2.2.2.2.2.2.2.2.2.2.2.2.2.2)
       else
        let p10 := fnX5_bits a1 (24 : Int32) (4 : Int32)
        let p11 := fnX5_bits a1 (0 : Int32) (12 : Int32)
        let p12 := fnX5_bits a1 (21 : Int32) (3 : Int32)
        ((0 : Int32), x.2.1, x.2.2.1, x.2.2.2.1, x.2.2.2.2.1, x.2.2.2.2.2.1, ((upd x.2.2.2.2.2.2.1.1 ((a0 - (6 : Int32))).toNatClampNeg p10), (upd x.2.2.2.2.2.2.1.2.1 ((a0 - (6 : Int32))).toNatClampNeg p11), (upd x.2.2.2.2.2.2.1.2.2 ((a0 - (6 : Int32))).toNatClampNeg p12)), x.2.2.2.2.2.2.2.1, x.2.2.2.2.2.2.2.2.1, x.2.2.2.2.2.2.2.2.2.1, x.2.2.2.2.2.2.2.2.2.2.1, x.2.2.2.2.2.2.2.2.2.2.2.1, x.2.2.2.2.2.2.2.2.2.2.2.2.1, x.2.2.2.2.2.2.2.2.2.2.2.2.2.1, x.2.2.2.2.2.2.2.2.2.2.2.2.2.2)
      else
       ((0 : Int32), x.2.1, x.2.2.1, x.2.2.2.1, x.2.2.2.2.1, (upd x.2.2.2.2.2.1 ((a0 - (2 : Int32))).toNatClampNeg ((a1).toInt32 &&& (4095 : Int32))), x.2.2.2.2.2.2.1, x.2.2.2.2.2.2.2.1, x.2.2.2.2.2.2.2.2.1, x.2.2.2.2.2.2.2.2.2.1, x.2.2.2.2.2.2.2.2.2.2.1, x.2.2.2.2.2.2.2.2.2.2.2.1, x.2.2.2.2.2.2.2.2.2.2.2.2.1, x.2.2.2.2.2.2.2.2.2.2.2.2.2.1, x.2.2.2.2.2.2.2.2.2.2.2.2.2.2)
   else
    ((1 : Int32), x.2.1, x.2.2.1, x.2.2.2.1, x.2.2.2.2.1, x.2.2.2.2.2.1, x.2.2.2.2.2.2.1, x.2.2.2.2.2.2.2.1, x.2.2.2.2.2.2.2.2.1, x.2.2.2.2.2.2.2.2.2.1, x.2.2.2.2.2.2.2.2.2.2.1, x.2.2.2.2.2.2.2.2.2.2.2.1, x.2.2.2.2.2.2.2.2.2.2.2.2.1, x.2.2.2.2.2.2.2.2.2.2.2.2.2.1, x.2.2.2.2.2.2.2.2.2.2.2.2.2.2)
abbrev ivX5_setP (z : TM) : Prop := iM z
set_option maxRecDepth 100000 in
set_option maxHeartbeats 4000000 in
theorem ivX5_set (x : TM) (a0 : Int32) (a1 : Int64) (hI : iM x) : ivX5_setP (fnX5_set x a0 a1) := by
  unfold fnX5_set
  try dsimp only
  refine iteI (fun h1 => ?_) (fun h1 => ?_)
  · exact ⟨hI.1, hI.2.1, hI.2.2.1, hI.2.2.2.1, hI.2.2.2.2.1, hI.2.2.2.2.2.1, hI.2.2.2.2.2.2.1, hI.2.2.2.2.2.2.2⟩
  · refine iteI (fun h2 => ?_) (fun h2 => ?_)
    · refine iteI (fun h3 => ?_) (fun h3 => ?_)
      · exact ⟨hI.1, hI.2.1, hI.2.2.1, hI.2.2.2.1, hI.2.2.2.2.1, hI.2.2.2.2.2.1, hI.2.2.2.2.2.2.1, hI.2.2.2.2.2.2.2⟩
      · refine iteI (fun h4 => ?_) (fun h4 => ?_)
        · exact ⟨hI.1, hI.2.1, hI.2.2.1, hI.2.2.2.1, hI.2.2.2.2.1, hI.2.2.2.2.2.1, hI.2.2.2.2.2.2.1, hI.2.2.2.2.2.2.2⟩
        · refine iteI (fun h5 => ?_) (fun h5 => ?_)
          · refine iteI (fun h6 => ?_) (fun h6 => ?_)
            · have j7 : i4 (fnX5_bits a1 (24 : Int32) (4 : Int32)) := (f4M a1 (24 : Int32))
              generalize fnX5_bits a1 (24 : Int32) (4 : Int32) = p7 at j7 ⊢
              have j8 : i12 (fnX5_bits a1 (0 : Int32) (12 : Int32)) := (f12M a1 (0 : Int32))
              generalize fnX5_bits a1 (0 : Int32) (12 : Int32) = p8 at j8 ⊢
              have j9 : i3 (fnX5_bits a1 (21 : Int32) (3 : Int32)) := (f3M a1 (21 : Int32))
              generalize fnX5_bits a1 (21 : Int32) (3 : Int32) = p9 at j9 ⊢
              exact ⟨hI.1, hI.2.1, hI.2.2.1, ⟨j7, j8⟩, hI.2.2.2.2.1, hI.2.2.2.2.2.1, hI.2.2.2.2.2.2.1, hI.2.2.2.2.2.2.2⟩
            · have j10 : i4 (fnX5_bits a1 (24 : Int32) (4 : Int32)) := (f4M a1 (24 : Int32))
              generalize fnX5_bits a1 (24 : Int32) (4 : Int32) = p10 at j10 ⊢
              have j11 : i12 (fnX5_bits a1 (0 : Int32) (12 : Int32)) := (f12M a1 (0 : Int32))
              generalize fnX5_bits a1 (0 : Int32) (12 : Int32) = p11 at j11 ⊢
              have j12 : i3 (fnX5_bits a1 (21 : Int32) (3 : Int32)) := (f3M a1 (21 : Int32))
              generalize fnX5_bits a1 (21 : Int32) (3 : Int32) = p12 at j12 ⊢
              exact ⟨hI.1, hI.2.1, ⟨(up4 hI.2.2.1.1 j10), (up12 hI.2.2.1.2 j11)⟩, hI.2.2.2.1, hI.2.2.2.2.1, hI.2.2.2.2.2.1, hI.2.2.2.2.2.2.1, hI.2.2.2.2.2.2.2⟩
          · exact ⟨hI.1, hI.2.1, hI.2.2.1, hI.2.2.2.1, hI.2.2.2.2.1, hI.2.2.2.2.2.1, hI.2.2.2.2.2.2.1, hI.2.2.2.2.2.2.2⟩
    · exact ⟨hI.1, hI.2.1, hI.2.2.1, hI.2.2.2.1, hI.2.2.2.2.1, hI.2.2.2.2.2.1, hI.2.2.2.2.2.2.1, hI.2.2.2.2.2.2.2⟩
set_option maxRecDepth 100000 in
set_option maxHeartbeats 4000000 in
theorem okX5_set (l : Launch) (D : va_G) (cI cJ cP : ClassId) (ad : Nat → Nat) (sz : Nat) (x : TM) (a0 : Int32) (a1 : Int64) (hI : iM x) : Met l yX5_set (Cond.code yX5_set cX5_set 4 none :: gG) { frames := 1, cells := 0, slots := 0, locals := 23 } (va_Pc [.ref (ad 0), .int a0, .long a1] (PRE D (tz cI cJ cP) sz (wM cI cJ ad x))) (va_Qv (fun (u : TM) => u = fnX5_set x a0 a1) (AT D (tz cI cJ cP) (va_A (wM cI cJ ad x) sz) (fun (u : TM) => (wM cI cJ ad u))) (va_A (wM cI cJ ad x) sz)) 0 0 (va_A (wM cI cJ ad x) sz) := by
  refine mo (QA := fun A => va_Qv (fun (u : TM) => u = fnX5_set x a0 a1) (AT D (tz cI cJ cP) A (fun (u : TM) => (wM cI cJ ad u))) A) (by decide) (Nat.le_of_ble_eq_true rfl) ?_
  intro p e s m below meth c A ls H hx hb hr hml hown hG hlocks hnm hA hS hP hK hD hl hN
  have hown : s.vm.findClass RX5 = some m.cls := hown
  have hl : lv_has ls 4 [(0, .ref (ad 0)), (1, .int a0), (2, .long a1)] := hl
  refine lv_aload_n hx hb dX5_set_0 rfl (lv_at hl 0 rfl) ?_
  refine lv_iload_n hx hb dX5_set_1 rfl (lv_at hl 1 rfl) ?_
  refine lv_if_lt (tgt := 11) hx hb dX5_set_2 (by decide) (fun h1 => ?_) (fun h1 => ?_)
  · refine lv_iconst (v := 1) hx hb dX5_set_11 (by decide) ?_
    refine lv_goto (tgt := 16) hx hb dX5_set_12 (by decide) ?_
    refine pu (D := D) (ci := 5) (v := .int ((1 : Int32))) (ty := .int) (W' := (wM cI cJ ad ((1 : Int32), x.2.1, x.2.2.1, x.2.2.2.1, x.2.2.2.2.1, x.2.2.2.2.2.1, x.2.2.2.2.2.2.1, x.2.2.2.2.2.2.2.1, x.2.2.2.2.2.2.2.2.1, x.2.2.2.2.2.2.2.2.2.1, x.2.2.2.2.2.2.2.2.2.2.1, x.2.2.2.2.2.2.2.2.2.2.2.1, x.2.2.2.2.2.2.2.2.2.2.2.2.1, x.2.2.2.2.2.2.2.2.2.2.2.2.2.1, x.2.2.2.2.2.2.2.2.2.2.2.2.2.2))) hx hb hG inX5 tyX5 tyokX5 nmX5 hown hK hP hD hS 0 rfl rfl 0 (by decide) (hG _ kw241) (fun _ h9 => h9) rfl (by decide +kernel) rfl rfl (Nat.le_of_ble_eq_true rfl) dX5_set_16 rfl (fun H locs hP hD hS => ?_)
    refine lv_aload_n hx hb dX5_set_19 rfl (lv_at hl 0 rfl) ?_
    refine va_get (D := D) (ci := 5) (v := .int ((1 : Int32))) hx hb hG inX5 hown hK hP 0 rfl rfl 0 (by decide) (hG _ kw241) (fun _ h9 => h9) rfl dX5_set_20 ?_
    refine lv_if_le (tgt := 27) hx hb dX5_set_23 (by decide) (fun h9 => absurd h9 (by decide)) (fun _ => ?_)
    exact retv (u := ((1 : Int32), x.2.1, x.2.2.1, x.2.2.2.1, x.2.2.2.2.1, x.2.2.2.2.2.1, x.2.2.2.2.2.2.1, x.2.2.2.2.2.2.2.1, x.2.2.2.2.2.2.2.2.1, x.2.2.2.2.2.2.2.2.2.1, x.2.2.2.2.2.2.2.2.2.2.1, x.2.2.2.2.2.2.2.2.2.2.2.1, x.2.2.2.2.2.2.2.2.2.2.2.2.1, x.2.2.2.2.2.2.2.2.2.2.2.2.2.1, x.2.2.2.2.2.2.2.2.2.2.2.2.2.2)) hx hb hr hlocks hK hP hD hS dX5_set_26 (by unfold fnX5_set; (try dsimp only); rw [if_pos h1]; (try exact rfl))
  · refine lv_iload_n hx hb dX5_set_5 rfl (lv_at hl 1 rfl) ?_
    refine lv_bipush (v := 10) hx hb dX5_set_6 (by decide) ?_
    refine lv_icmp_le (tgt := 15) hx hb dX5_set_8 (by decide) (fun h2 => ?_) (fun h2 => ?_)
    · refine lv_iconst (v := 0) hx hb dX5_set_15 (by decide) ?_
      refine pu (D := D) (ci := 5) (v := .int ((0 : Int32))) (ty := .int) (W' := (wM cI cJ ad ((0 : Int32), x.2.1, x.2.2.1, x.2.2.2.1, x.2.2.2.2.1, x.2.2.2.2.2.1, x.2.2.2.2.2.2.1, x.2.2.2.2.2.2.2.1, x.2.2.2.2.2.2.2.2.1, x.2.2.2.2.2.2.2.2.2.1, x.2.2.2.2.2.2.2.2.2.2.1, x.2.2.2.2.2.2.2.2.2.2.2.1, x.2.2.2.2.2.2.2.2.2.2.2.2.1, x.2.2.2.2.2.2.2.2.2.2.2.2.2.1, x.2.2.2.2.2.2.2.2.2.2.2.2.2.2))) hx hb hG inX5 tyX5 tyokX5 nmX5 hown hK hP hD hS 0 rfl rfl 0 (by decide) (hG _ kw241) (fun _ h9 => h9) rfl (by decide +kernel) rfl rfl (Nat.le_of_ble_eq_true rfl) dX5_set_16 rfl (fun H locs hP hD hS => ?_)
      refine lv_aload_n hx hb dX5_set_19 rfl (lv_at hl 0 rfl) ?_
      refine va_get (D := D) (ci := 5) (v := .int ((0 : Int32))) hx hb hG inX5 hown hK hP 0 rfl rfl 0 (by decide) (hG _ kw241) (fun _ h9 => h9) rfl dX5_set_20 ?_
      refine lv_if_le (tgt := 27) hx hb dX5_set_23 (by decide) (fun _ => ?_) (fun h9 => absurd (by decide) h9)
      refine lv_iload_n hx hb dX5_set_27 rfl (lv_at hl 1 rfl) ?_
      refine lv_if_ne (tgt := 43) hx hb dX5_set_28 (by decide) (fun h3 => ?_) (fun h3 => ?_)
      · refine lv_iload_n hx hb dX5_set_43 rfl (lv_at hl 1 rfl) ?_
        refine lv_iconst (v := 1) hx hb dX5_set_44 (by decide) ?_
        refine lv_icmp_ne (tgt := 60) hx hb dX5_set_45 (by decide) (fun h4 => ?_) (fun h4 => ?_)
        · refine lv_iload_n hx hb dX5_set_60 rfl (lv_at hl 1 rfl) ?_
          refine lv_bipush (v := 6) hx hb dX5_set_61 (by decide) ?_
          refine lv_icmp_ge (tgt := 83) hx hb dX5_set_63 (by decide) (fun h5 => ?_) (fun h5 => ?_)
          · refine lv_iload_n hx hb dX5_set_83 rfl (lv_at hl 1 rfl) ?_
            refine lv_bipush (v := 10) hx hb dX5_set_84 (by decide) ?_
            refine lv_icmp_ge (tgt := 140) hx hb dX5_set_86 (by decide) (fun h6 => ?_) (fun h6 => ?_)
            · refine lv_aload_n hx hb dX5_set_140 rfl (lv_at hl 0 rfl) ?_
              refine lv_lload_n hx hb dX5_set_141 rfl (lv_at hl 2 rfl) ?_
              refine lv_bipush (v := 24) hx hb dX5_set_142 (by decide) ?_
              refine lv_iconst (v := 4) hx hb dX5_set_144 (by decide) ?_
              refine k0Si (As := [.long (a1), .int ((24 : Int32)), .int ((4 : Int32))]) (rest := [.ref (ad 0)]) hx hb hml hown hG hl (okX5_bits l D cI cJ cP  H.size a1 (24 : Int32) (4 : Int32) ) (cS 3 hG kw237 kw239 kw240 kw238 hdX5_bits ⟨by decide, by decide⟩) hK hP hD hS hA hN rfl rfl (Nat.le_of_ble_eq_true rfl) dX5_set_145 ⟨Nat.zero_le _, Nat.zero_le _⟩ (fun r7 q7 H locs hP hD hS => ?_)
              have j7 : i4 r7 := by rw [q7]; exact (f4M a1 (24 : Int32))
              refine pu (D := D) (ci := 5) (v := .int (r7)) (ty := .int) (W' := (wM cI cJ ad ((0 : Int32), x.2.1, x.2.2.1, x.2.2.2.1, x.2.2.2.2.1, x.2.2.2.2.2.1, x.2.2.2.2.2.2.1, (r7, x.2.2.2.2.2.2.2.1.2.1, x.2.2.2.2.2.2.2.1.2.2), x.2.2.2.2.2.2.2.2.1, x.2.2.2.2.2.2.2.2.2.1, x.2.2.2.2.2.2.2.2.2.2.1, x.2.2.2.2.2.2.2.2.2.2.2.1, x.2.2.2.2.2.2.2.2.2.2.2.2.1, x.2.2.2.2.2.2.2.2.2.2.2.2.2.1, x.2.2.2.2.2.2.2.2.2.2.2.2.2.2))) hx hb hG inX5 tyX5 tyokX5 nmX5 hown hK hP hD hS 0 rfl rfl 15 (by decide) (hG _ kw245) (fun _ h9 => h9) rfl (by decide +kernel) rfl rfl (Nat.le_of_ble_eq_true rfl) dX5_set_148 rfl (fun H locs hP hD hS => ?_)
              refine lv_aload_n hx hb dX5_set_151 rfl (lv_at hl 0 rfl) ?_
              refine lv_lload_n hx hb dX5_set_152 rfl (lv_at hl 2 rfl) ?_
              refine lv_iconst (v := 0) hx hb dX5_set_153 (by decide) ?_
              refine lv_bipush (v := 12) hx hb dX5_set_154 (by decide) ?_
              refine k0Si (As := [.long (a1), .int ((0 : Int32)), .int ((12 : Int32))]) (rest := [.ref (ad 0)]) hx hb hml hown hG hl (okX5_bits l D cI cJ cP  H.size a1 (0 : Int32) (12 : Int32) ) (cS 3 hG kw237 kw239 kw240 kw238 hdX5_bits ⟨by decide, by decide⟩) hK hP hD hS hA hN rfl rfl (Nat.le_of_ble_eq_true rfl) dX5_set_156 ⟨Nat.zero_le _, Nat.zero_le _⟩ (fun r8 q8 H locs hP hD hS => ?_)
              have j8 : i12 r8 := by rw [q8]; exact (f12M a1 (0 : Int32))
              refine pu (D := D) (ci := 5) (v := .int (r8)) (ty := .int) (W' := (wM cI cJ ad ((0 : Int32), x.2.1, x.2.2.1, x.2.2.2.1, x.2.2.2.2.1, x.2.2.2.2.2.1, x.2.2.2.2.2.2.1, (r7, r8, x.2.2.2.2.2.2.2.1.2.2), x.2.2.2.2.2.2.2.2.1, x.2.2.2.2.2.2.2.2.2.1, x.2.2.2.2.2.2.2.2.2.2.1, x.2.2.2.2.2.2.2.2.2.2.2.1, x.2.2.2.2.2.2.2.2.2.2.2.2.1, x.2.2.2.2.2.2.2.2.2.2.2.2.2.1, x.2.2.2.2.2.2.2.2.2.2.2.2.2.2))) hx hb hG inX5 tyX5 tyokX5 nmX5 hown hK hP hD hS 0 rfl rfl 16 (by decide) (hG _ kw246) (fun _ h9 => h9) rfl (by decide +kernel) rfl rfl (Nat.le_of_ble_eq_true rfl) dX5_set_159 rfl (fun H locs hP hD hS => ?_)
              refine lv_aload_n hx hb dX5_set_162 rfl (lv_at hl 0 rfl) ?_
              refine lv_lload_n hx hb dX5_set_163 rfl (lv_at hl 2 rfl) ?_
              refine lv_bipush (v := 21) hx hb dX5_set_164 (by decide) ?_
              refine lv_iconst (v := 3) hx hb dX5_set_166 (by decide) ?_
              refine k0Si (As := [.long (a1), .int ((21 : Int32)), .int ((3 : Int32))]) (rest := [.ref (ad 0)]) hx hb hml hown hG hl (okX5_bits l D cI cJ cP  H.size a1 (21 : Int32) (3 : Int32) ) (cS 3 hG kw237 kw239 kw240 kw238 hdX5_bits ⟨by decide, by decide⟩) hK hP hD hS hA hN rfl rfl (Nat.le_of_ble_eq_true rfl) dX5_set_167 ⟨Nat.zero_le _, Nat.zero_le _⟩ (fun r9 q9 H locs hP hD hS => ?_)
              have j9 : i3 r9 := by rw [q9]; exact (f3M a1 (21 : Int32))
              refine pu (D := D) (ci := 5) (v := .int (r9)) (ty := .int) (W' := (wM cI cJ ad ((0 : Int32), x.2.1, x.2.2.1, x.2.2.2.1, x.2.2.2.2.1, x.2.2.2.2.2.1, x.2.2.2.2.2.2.1, (r7, r8, r9), x.2.2.2.2.2.2.2.2.1, x.2.2.2.2.2.2.2.2.2.1, x.2.2.2.2.2.2.2.2.2.2.1, x.2.2.2.2.2.2.2.2.2.2.2.1, x.2.2.2.2.2.2.2.2.2.2.2.2.1, x.2.2.2.2.2.2.2.2.2.2.2.2.2.1, x.2.2.2.2.2.2.2.2.2.2.2.2.2.2))) hx hb hG inX5 tyX5 tyokX5 nmX5 hown hK hP hD hS 0 rfl rfl 17 (by decide) (hG _ kw309) (fun _ h9 => h9) rfl (by decide +kernel) rfl rfl (Nat.le_of_ble_eq_true rfl) dX5_set_170 rfl (fun H locs hP hD hS => ?_)
              exact retv (u := ((0 : Int32), x.2.1, x.2.2.1, x.2.2.2.1, x.2.2.2.2.1, x.2.2.2.2.2.1, x.2.2.2.2.2.2.1, (r7, r8, r9), x.2.2.2.2.2.2.2.2.1, x.2.2.2.2.2.2.2.2.2.1, x.2.2.2.2.2.2.2.2.2.2.1, x.2.2.2.2.2.2.2.2.2.2.2.1, x.2.2.2.2.2.2.2.2.2.2.2.2.1, x.2.2.2.2.2.2.2.2.2.2.2.2.2.1, x.2.2.2.2.2.2.2.2.2.2.2.2.2.2)) hx hb hr hlocks hK hP hD hS dX5_set_173 (by unfold fnX5_set; (try dsimp only); rw [if_neg h1]; rw [if_pos h2]; rw [if_neg h3]; rw [if_neg h4]; rw [if_pos h5]; rw [if_pos h6]; rw [← q7]; (try dsimp only); rw [← q8]; (try dsimp only); rw [← q9]; (try dsimp only); (try exact rfl))
            · refine lv_aload_n hx hb dX5_set_89 rfl (lv_at hl 0 rfl) ?_
              refine va_get (D := D) (ci := 5) (v := .ref (ad 8)) hx hb hG inX5 hown hK hP 0 rfl rfl 12 (by decide) (hG _ kw293) (fun _ h9 => h9) rfl dX5_set_90 ?_
              refine lv_iload_n hx hb dX5_set_93 rfl (lv_at hl 1 rfl) ?_
              refine lv_bipush (v := 6) hx hb dX5_set_94 (by decide) ?_
              refine lv_isub hx hb dX5_set_96 ?_
              refine lv_lload_n hx hb dX5_set_97 rfl (lv_at hl 2 rfl) ?_
              refine lv_bipush (v := 24) hx hb dX5_set_98 (by decide) ?_
              refine lv_iconst (v := 4) hx hb dX5_set_100 (by decide) ?_
              refine k0Si (As := [.long (a1), .int ((24 : Int32)), .int ((4 : Int32))]) (rest := [.int ((a0 - (6 : Int32))), .ref (ad 8)]) hx hb hml hown hG hl (okX5_bits l D cI cJ cP  H.size a1 (24 : Int32) (4 : Int32) ) (cS 3 hG kw237 kw239 kw240 kw238 hdX5_bits ⟨by decide, by decide⟩) hK hP hD hS hA hN rfl rfl (Nat.le_of_ble_eq_true rfl) dX5_set_101 ⟨Nat.zero_le _, Nat.zero_le _⟩ (fun r10 q10 H locs hP hD hS => ?_)
              have j10 : i4 r10 := by rw [q10]; exact (f4M a1 (24 : Int32))
              refine si (D := D) (j := ((a0 - (6 : Int32))).toNatClampNeg) (f := x.2.2.2.2.2.2.1.1) (x := r10) (W' := (wM cI cJ ad ((0 : Int32), x.2.1, x.2.2.1, x.2.2.2.1, x.2.2.2.2.1, x.2.2.2.2.2.1, ((upd x.2.2.2.2.2.2.1.1 ((a0 - (6 : Int32))).toNatClampNeg r10), x.2.2.2.2.2.2.1.2.1, x.2.2.2.2.2.2.1.2.2), x.2.2.2.2.2.2.2.1, x.2.2.2.2.2.2.2.2.1, x.2.2.2.2.2.2.2.2.2.1, x.2.2.2.2.2.2.2.2.2.2.1, x.2.2.2.2.2.2.2.2.2.2.2.1, x.2.2.2.2.2.2.2.2.2.2.2.2.1, x.2.2.2.2.2.2.2.2.2.2.2.2.2.1, x.2.2.2.2.2.2.2.2.2.2.2.2.2.2))) hx hb hK hP hD hS 8 0 rfl rfl (in2 (kp6 (mkI h1 h2 (by decide)) h5 h6)) rfl dX5_set_104 rfl (fun H locs hP hD hS => ?_)
              refine lv_aload_n hx hb dX5_set_105 rfl (lv_at hl 0 rfl) ?_
              refine va_get (D := D) (ci := 5) (v := .ref (ad 9)) hx hb hG inX5 hown hK hP 0 rfl rfl 13 (by decide) (hG _ kw294) (fun _ h9 => h9) rfl dX5_set_106 ?_
              refine lv_iload_n hx hb dX5_set_109 rfl (lv_at hl 1 rfl) ?_
              refine lv_bipush (v := 6) hx hb dX5_set_110 (by decide) ?_
              refine lv_isub hx hb dX5_set_112 ?_
              refine lv_lload_n hx hb dX5_set_113 rfl (lv_at hl 2 rfl) ?_
              refine lv_iconst (v := 0) hx hb dX5_set_114 (by decide) ?_
              refine lv_bipush (v := 12) hx hb dX5_set_115 (by decide) ?_
              refine k0Si (As := [.long (a1), .int ((0 : Int32)), .int ((12 : Int32))]) (rest := [.int ((a0 - (6 : Int32))), .ref (ad 9)]) hx hb hml hown hG hl (okX5_bits l D cI cJ cP  H.size a1 (0 : Int32) (12 : Int32) ) (cS 3 hG kw237 kw239 kw240 kw238 hdX5_bits ⟨by decide, by decide⟩) hK hP hD hS hA hN rfl rfl (Nat.le_of_ble_eq_true rfl) dX5_set_117 ⟨Nat.zero_le _, Nat.zero_le _⟩ (fun r11 q11 H locs hP hD hS => ?_)
              have j11 : i12 r11 := by rw [q11]; exact (f12M a1 (0 : Int32))
              refine si (D := D) (j := ((a0 - (6 : Int32))).toNatClampNeg) (f := x.2.2.2.2.2.2.1.2.1) (x := r11) (W' := (wM cI cJ ad ((0 : Int32), x.2.1, x.2.2.1, x.2.2.2.1, x.2.2.2.2.1, x.2.2.2.2.2.1, ((upd x.2.2.2.2.2.2.1.1 ((a0 - (6 : Int32))).toNatClampNeg r10), (upd x.2.2.2.2.2.2.1.2.1 ((a0 - (6 : Int32))).toNatClampNeg r11), x.2.2.2.2.2.2.1.2.2), x.2.2.2.2.2.2.2.1, x.2.2.2.2.2.2.2.2.1, x.2.2.2.2.2.2.2.2.2.1, x.2.2.2.2.2.2.2.2.2.2.1, x.2.2.2.2.2.2.2.2.2.2.2.1, x.2.2.2.2.2.2.2.2.2.2.2.2.1, x.2.2.2.2.2.2.2.2.2.2.2.2.2.1, x.2.2.2.2.2.2.2.2.2.2.2.2.2.2))) hx hb hK hP hD hS 9 0 rfl rfl (in2 (kp6 (mkI h1 h2 (by decide)) h5 h6)) rfl dX5_set_120 rfl (fun H locs hP hD hS => ?_)
              refine lv_aload_n hx hb dX5_set_121 rfl (lv_at hl 0 rfl) ?_
              refine va_get (D := D) (ci := 5) (v := .ref (ad 10)) hx hb hG inX5 hown hK hP 0 rfl rfl 14 (by decide) (hG _ kw295) (fun _ h9 => h9) rfl dX5_set_122 ?_
              refine lv_iload_n hx hb dX5_set_125 rfl (lv_at hl 1 rfl) ?_
              refine lv_bipush (v := 6) hx hb dX5_set_126 (by decide) ?_
              refine lv_isub hx hb dX5_set_128 ?_
              refine lv_lload_n hx hb dX5_set_129 rfl (lv_at hl 2 rfl) ?_
              refine lv_bipush (v := 21) hx hb dX5_set_130 (by decide) ?_
              refine lv_iconst (v := 3) hx hb dX5_set_132 (by decide) ?_
              refine k0Si (As := [.long (a1), .int ((21 : Int32)), .int ((3 : Int32))]) (rest := [.int ((a0 - (6 : Int32))), .ref (ad 10)]) hx hb hml hown hG hl (okX5_bits l D cI cJ cP  H.size a1 (21 : Int32) (3 : Int32) ) (cS 3 hG kw237 kw239 kw240 kw238 hdX5_bits ⟨by decide, by decide⟩) hK hP hD hS hA hN rfl rfl (Nat.le_of_ble_eq_true rfl) dX5_set_133 ⟨Nat.zero_le _, Nat.zero_le _⟩ (fun r12 q12 H locs hP hD hS => ?_)
              have j12 : i3 r12 := by rw [q12]; exact (f3M a1 (21 : Int32))
              refine si (D := D) (j := ((a0 - (6 : Int32))).toNatClampNeg) (f := x.2.2.2.2.2.2.1.2.2) (x := r12) (W' := (wM cI cJ ad ((0 : Int32), x.2.1, x.2.2.1, x.2.2.2.1, x.2.2.2.2.1, x.2.2.2.2.2.1, ((upd x.2.2.2.2.2.2.1.1 ((a0 - (6 : Int32))).toNatClampNeg r10), (upd x.2.2.2.2.2.2.1.2.1 ((a0 - (6 : Int32))).toNatClampNeg r11), (upd x.2.2.2.2.2.2.1.2.2 ((a0 - (6 : Int32))).toNatClampNeg r12)), x.2.2.2.2.2.2.2.1, x.2.2.2.2.2.2.2.2.1, x.2.2.2.2.2.2.2.2.2.1, x.2.2.2.2.2.2.2.2.2.2.1, x.2.2.2.2.2.2.2.2.2.2.2.1, x.2.2.2.2.2.2.2.2.2.2.2.2.1, x.2.2.2.2.2.2.2.2.2.2.2.2.2.1, x.2.2.2.2.2.2.2.2.2.2.2.2.2.2))) hx hb hK hP hD hS 10 0 rfl rfl (in2 (kp6 (mkI h1 h2 (by decide)) h5 h6)) rfl dX5_set_136 rfl (fun H locs hP hD hS => ?_)
              refine lv_goto (tgt := 173) hx hb dX5_set_137 (by decide) ?_
              exact retv (u := ((0 : Int32), x.2.1, x.2.2.1, x.2.2.2.1, x.2.2.2.2.1, x.2.2.2.2.2.1, ((upd x.2.2.2.2.2.2.1.1 ((a0 - (6 : Int32))).toNatClampNeg r10), (upd x.2.2.2.2.2.2.1.2.1 ((a0 - (6 : Int32))).toNatClampNeg r11), (upd x.2.2.2.2.2.2.1.2.2 ((a0 - (6 : Int32))).toNatClampNeg r12)), x.2.2.2.2.2.2.2.1, x.2.2.2.2.2.2.2.2.1, x.2.2.2.2.2.2.2.2.2.1, x.2.2.2.2.2.2.2.2.2.2.1, x.2.2.2.2.2.2.2.2.2.2.2.1, x.2.2.2.2.2.2.2.2.2.2.2.2.1, x.2.2.2.2.2.2.2.2.2.2.2.2.2.1, x.2.2.2.2.2.2.2.2.2.2.2.2.2.2)) hx hb hr hlocks hK hP hD hS dX5_set_173 (by unfold fnX5_set; (try dsimp only); rw [if_neg h1]; rw [if_pos h2]; rw [if_neg h3]; rw [if_neg h4]; rw [if_pos h5]; rw [if_neg h6]; rw [← q10]; (try dsimp only); rw [← q11]; (try dsimp only); rw [← q12]; (try dsimp only); (try exact rfl))
          · refine lv_aload_n hx hb dX5_set_66 rfl (lv_at hl 0 rfl) ?_
            refine va_get (D := D) (ci := 5) (v := .ref (ad 7)) hx hb hG inX5 hown hK hP 0 rfl rfl 11 (by decide) (hG _ kw335) (fun _ h9 => h9) rfl dX5_set_67 ?_
            refine lv_iload_n hx hb dX5_set_70 rfl (lv_at hl 1 rfl) ?_
            refine lv_iconst (v := 2) hx hb dX5_set_71 (by decide) ?_
            refine lv_isub hx hb dX5_set_72 ?_
            refine lv_lload_n hx hb dX5_set_73 rfl (lv_at hl 2 rfl) ?_
            refine lv_l2i hx hb dX5_set_74 rfl ?_
            refine lv_sipush (v := 4095) hx hb dX5_set_75 (by decide) ?_
            refine lv_iand hx hb dX5_set_78 ?_
            refine si (D := D) (j := ((a0 - (2 : Int32))).toNatClampNeg) (f := x.2.2.2.2.2.1) (x := ((a1).toInt32 &&& (4095 : Int32))) (W' := (wM cI cJ ad ((0 : Int32), x.2.1, x.2.2.1, x.2.2.2.1, x.2.2.2.2.1, (upd x.2.2.2.2.2.1 ((a0 - (2 : Int32))).toNatClampNeg ((a1).toInt32 &&& (4095 : Int32))), x.2.2.2.2.2.2.1, x.2.2.2.2.2.2.2.1, x.2.2.2.2.2.2.2.2.1, x.2.2.2.2.2.2.2.2.2.1, x.2.2.2.2.2.2.2.2.2.2.1, x.2.2.2.2.2.2.2.2.2.2.2.1, x.2.2.2.2.2.2.2.2.2.2.2.2.1, x.2.2.2.2.2.2.2.2.2.2.2.2.2.1, x.2.2.2.2.2.2.2.2.2.2.2.2.2.2))) hx hb hK hP hD hS 7 0 rfl rfl (in2 (kx6 (mkI h1 h2 (by decide)) h3 h4 h5)) rfl dX5_set_79 rfl (fun H locs hP hD hS => ?_)
            refine lv_goto (tgt := 173) hx hb dX5_set_80 (by decide) ?_
            exact retv (u := ((0 : Int32), x.2.1, x.2.2.1, x.2.2.2.1, x.2.2.2.2.1, (upd x.2.2.2.2.2.1 ((a0 - (2 : Int32))).toNatClampNeg ((a1).toInt32 &&& (4095 : Int32))), x.2.2.2.2.2.2.1, x.2.2.2.2.2.2.2.1, x.2.2.2.2.2.2.2.2.1, x.2.2.2.2.2.2.2.2.2.1, x.2.2.2.2.2.2.2.2.2.2.1, x.2.2.2.2.2.2.2.2.2.2.2.1, x.2.2.2.2.2.2.2.2.2.2.2.2.1, x.2.2.2.2.2.2.2.2.2.2.2.2.2.1, x.2.2.2.2.2.2.2.2.2.2.2.2.2.2)) hx hb hr hlocks hK hP hD hS dX5_set_173 (by unfold fnX5_set; (try dsimp only); rw [if_neg h1]; rw [if_pos h2]; rw [if_neg h3]; rw [if_neg h4]; rw [if_neg h5]; (try exact rfl))
        · refine lv_aload_n hx hb dX5_set_48 rfl (lv_at hl 0 rfl) ?_
          refine lv_lload_n hx hb dX5_set_49 rfl (lv_at hl 2 rfl) ?_
          refine lv_ldc2 (v := 68719476735) hx hb hown (hG _ kw288) dX5_set_50 ?_
          refine lv_land hx hb dX5_set_53 ?_
          refine pu (D := D) (ci := 5) (v := .long ((a1 &&& (68719476735 : Int64)))) (ty := .long) (W' := (wM cI cJ ad ((0 : Int32), x.2.1, x.2.2.1, x.2.2.2.1, (x.2.2.2.2.1.1, (a1 &&& (68719476735 : Int64))), x.2.2.2.2.2.1, x.2.2.2.2.2.2.1, x.2.2.2.2.2.2.2.1, x.2.2.2.2.2.2.2.2.1, x.2.2.2.2.2.2.2.2.2.1, x.2.2.2.2.2.2.2.2.2.2.1, x.2.2.2.2.2.2.2.2.2.2.2.1, x.2.2.2.2.2.2.2.2.2.2.2.2.1, x.2.2.2.2.2.2.2.2.2.2.2.2.2.1, x.2.2.2.2.2.2.2.2.2.2.2.2.2.2))) hx hb hG inX5 tyX5 tyokX5 nmX5 hown hK hP hD hS 0 rfl rfl 10 (by decide) (hG _ kw308) (fun _ h9 => h9) rfl (by decide +kernel) rfl rfl (Nat.le_of_ble_eq_true rfl) dX5_set_54 rfl (fun H locs hP hD hS => ?_)
          refine lv_goto (tgt := 173) hx hb dX5_set_57 (by decide) ?_
          exact retv (u := ((0 : Int32), x.2.1, x.2.2.1, x.2.2.2.1, (x.2.2.2.2.1.1, (a1 &&& (68719476735 : Int64))), x.2.2.2.2.2.1, x.2.2.2.2.2.2.1, x.2.2.2.2.2.2.2.1, x.2.2.2.2.2.2.2.2.1, x.2.2.2.2.2.2.2.2.2.1, x.2.2.2.2.2.2.2.2.2.2.1, x.2.2.2.2.2.2.2.2.2.2.2.1, x.2.2.2.2.2.2.2.2.2.2.2.2.1, x.2.2.2.2.2.2.2.2.2.2.2.2.2.1, x.2.2.2.2.2.2.2.2.2.2.2.2.2.2)) hx hb hr hlocks hK hP hD hS dX5_set_173 (by unfold fnX5_set; (try dsimp only); rw [if_neg h1]; rw [if_pos h2]; rw [if_neg h3]; rw [if_pos h4]; (try exact rfl))
      · refine lv_aload_n hx hb dX5_set_31 rfl (lv_at hl 0 rfl) ?_
        refine lv_lload_n hx hb dX5_set_32 rfl (lv_at hl 2 rfl) ?_
        refine lv_ldc2 (v := 68719476735) hx hb hown (hG _ kw288) dX5_set_33 ?_
        refine lv_land hx hb dX5_set_36 ?_
        refine pu (D := D) (ci := 5) (v := .long ((a1 &&& (68719476735 : Int64)))) (ty := .long) (W' := (wM cI cJ ad ((0 : Int32), x.2.1, x.2.2.1, x.2.2.2.1, ((a1 &&& (68719476735 : Int64)), x.2.2.2.2.1.2), x.2.2.2.2.2.1, x.2.2.2.2.2.2.1, x.2.2.2.2.2.2.2.1, x.2.2.2.2.2.2.2.2.1, x.2.2.2.2.2.2.2.2.2.1, x.2.2.2.2.2.2.2.2.2.2.1, x.2.2.2.2.2.2.2.2.2.2.2.1, x.2.2.2.2.2.2.2.2.2.2.2.2.1, x.2.2.2.2.2.2.2.2.2.2.2.2.2.1, x.2.2.2.2.2.2.2.2.2.2.2.2.2.2))) hx hb hG inX5 tyX5 tyokX5 nmX5 hown hK hP hD hS 0 rfl rfl 9 (by decide) (hG _ kw307) (fun _ h9 => h9) rfl (by decide +kernel) rfl rfl (Nat.le_of_ble_eq_true rfl) dX5_set_37 rfl (fun H locs hP hD hS => ?_)
        refine lv_goto (tgt := 173) hx hb dX5_set_40 (by decide) ?_
        exact retv (u := ((0 : Int32), x.2.1, x.2.2.1, x.2.2.2.1, ((a1 &&& (68719476735 : Int64)), x.2.2.2.2.1.2), x.2.2.2.2.2.1, x.2.2.2.2.2.2.1, x.2.2.2.2.2.2.2.1, x.2.2.2.2.2.2.2.2.1, x.2.2.2.2.2.2.2.2.2.1, x.2.2.2.2.2.2.2.2.2.2.1, x.2.2.2.2.2.2.2.2.2.2.2.1, x.2.2.2.2.2.2.2.2.2.2.2.2.1, x.2.2.2.2.2.2.2.2.2.2.2.2.2.1, x.2.2.2.2.2.2.2.2.2.2.2.2.2.2)) hx hb hr hlocks hK hP hD hS dX5_set_173 (by unfold fnX5_set; (try dsimp only); rw [if_neg h1]; rw [if_pos h2]; rw [if_pos h3]; (try exact rfl))
    · refine lv_iconst (v := 1) hx hb dX5_set_11 (by decide) ?_
      refine lv_goto (tgt := 16) hx hb dX5_set_12 (by decide) ?_
      refine pu (D := D) (ci := 5) (v := .int ((1 : Int32))) (ty := .int) (W' := (wM cI cJ ad ((1 : Int32), x.2.1, x.2.2.1, x.2.2.2.1, x.2.2.2.2.1, x.2.2.2.2.2.1, x.2.2.2.2.2.2.1, x.2.2.2.2.2.2.2.1, x.2.2.2.2.2.2.2.2.1, x.2.2.2.2.2.2.2.2.2.1, x.2.2.2.2.2.2.2.2.2.2.1, x.2.2.2.2.2.2.2.2.2.2.2.1, x.2.2.2.2.2.2.2.2.2.2.2.2.1, x.2.2.2.2.2.2.2.2.2.2.2.2.2.1, x.2.2.2.2.2.2.2.2.2.2.2.2.2.2))) hx hb hG inX5 tyX5 tyokX5 nmX5 hown hK hP hD hS 0 rfl rfl 0 (by decide) (hG _ kw241) (fun _ h9 => h9) rfl (by decide +kernel) rfl rfl (Nat.le_of_ble_eq_true rfl) dX5_set_16 rfl (fun H locs hP hD hS => ?_)
      refine lv_aload_n hx hb dX5_set_19 rfl (lv_at hl 0 rfl) ?_
      refine va_get (D := D) (ci := 5) (v := .int ((1 : Int32))) hx hb hG inX5 hown hK hP 0 rfl rfl 0 (by decide) (hG _ kw241) (fun _ h9 => h9) rfl dX5_set_20 ?_
      refine lv_if_le (tgt := 27) hx hb dX5_set_23 (by decide) (fun h9 => absurd h9 (by decide)) (fun _ => ?_)
      exact retv (u := ((1 : Int32), x.2.1, x.2.2.1, x.2.2.2.1, x.2.2.2.2.1, x.2.2.2.2.2.1, x.2.2.2.2.2.2.1, x.2.2.2.2.2.2.2.1, x.2.2.2.2.2.2.2.2.1, x.2.2.2.2.2.2.2.2.2.1, x.2.2.2.2.2.2.2.2.2.2.1, x.2.2.2.2.2.2.2.2.2.2.2.1, x.2.2.2.2.2.2.2.2.2.2.2.2.1, x.2.2.2.2.2.2.2.2.2.2.2.2.2.1, x.2.2.2.2.2.2.2.2.2.2.2.2.2.2)) hx hb hr hlocks hK hP hD hS dX5_set_26 (by unfold fnX5_set; (try dsimp only); rw [if_neg h1]; rw [if_neg h2]; (try exact rfl))
def fnX5_get (x : TM) (a0 : Int32) : Int64 × TM :=
  if a0 < (0 : Int32) then
   ((0 : Int64), ((1 : Int32), x.2.1, x.2.2.1, x.2.2.2.1, x.2.2.2.2.1, x.2.2.2.2.2.1, x.2.2.2.2.2.2.1, x.2.2.2.2.2.2.2.1, x.2.2.2.2.2.2.2.2.1, x.2.2.2.2.2.2.2.2.2.1, x.2.2.2.2.2.2.2.2.2.2.1, x.2.2.2.2.2.2.2.2.2.2.2.1, x.2.2.2.2.2.2.2.2.2.2.2.2.1, x.2.2.2.2.2.2.2.2.2.2.2.2.2.1, x.2.2.2.2.2.2.2.2.2.2.2.2.2.2))
  else
   if a0 ≤ (10 : Int32) then
    if (2 : Int32) ≤ a0 then
     if (6 : Int32) ≤ a0 then
      if (10 : Int32) ≤ a0 then
       let p6 := fnX5_pointer x.2.2.2.2.2.2.2.1.1 x.2.2.2.2.2.2.2.1.2.1 x.2.2.2.2.2.2.2.1.2.2
       (p6, ((0 : Int32), x.2.1, x.2.2.1, x.2.2.2.1, x.2.2.2.2.1, x.2.2.2.2.2.1, x.2.2.2.2.2.2.1, x.2.2.2.2.2.2.2.1, x.2.2.2.2.2.2.2.2.1, x.2.2.2.2.2.2.2.2.2.1, x.2.2.2.2.2.2.2.2.2.2.1, x.2.2.2.2.2.2.2.2.2.2.2.1, x.2.2.2.2.2.2.2.2.2.2.2.2.1, x.2.2.2.2.2.2.2.2.2.2.2.2.2.1, x.2.2.2.2.2.2.2.2.2.2.2.2.2.2))
      else
       let p7 := fnX5_pointer (x.2.2.2.2.2.2.1.1 ((a0 - (6 : Int32))).toNatClampNeg) (x.2.2.2.2.2.2.1.2.1 ((a0 - (6 : Int32))).toNatClampNeg) (x.2.2.2.2.2.2.1.2.2 ((a0 - (6 : Int32))).toNatClampNeg)
       (p7, ((0 : Int32), x.2.1, x.2.2.1, x.2.2.2.1, x.2.2.2.2.1, x.2.2.2.2.2.1, x.2.2.2.2.2.2.1, x.2.2.2.2.2.2.2.1, x.2.2.2.2.2.2.2.2.1, x.2.2.2.2.2.2.2.2.2.1, x.2.2.2.2.2.2.2.2.2.2.1, x.2.2.2.2.2.2.2.2.2.2.2.1, x.2.2.2.2.2.2.2.2.2.2.2.2.1, x.2.2.2.2.2.2.2.2.2.2.2.2.2.1, x.2.2.2.2.2.2.2.2.2.2.2.2.2.2))
     else
      (((x.2.2.2.2.2.1 ((a0 - (2 : Int32))).toNatClampNeg)).toInt64, ((0 : Int32), x.2.1, x.2.2.1, x.2.2.2.1, x.2.2.2.2.1, x.2.2.2.2.2.1, x.2.2.2.2.2.2.1, x.2.2.2.2.2.2.2.1, x.2.2.2.2.2.2.2.2.1, x.2.2.2.2.2.2.2.2.2.1, x.2.2.2.2.2.2.2.2.2.2.1, x.2.2.2.2.2.2.2.2.2.2.2.1, x.2.2.2.2.2.2.2.2.2.2.2.2.1, x.2.2.2.2.2.2.2.2.2.2.2.2.2.1, x.2.2.2.2.2.2.2.2.2.2.2.2.2.2))
    else
     if a0 = (0 : Int32) then
      (x.2.2.2.2.1.1, ((0 : Int32), x.2.1, x.2.2.1, x.2.2.2.1, x.2.2.2.2.1, x.2.2.2.2.2.1, x.2.2.2.2.2.2.1, x.2.2.2.2.2.2.2.1, x.2.2.2.2.2.2.2.2.1, x.2.2.2.2.2.2.2.2.2.1, x.2.2.2.2.2.2.2.2.2.2.1, x.2.2.2.2.2.2.2.2.2.2.2.1, x.2.2.2.2.2.2.2.2.2.2.2.2.1, x.2.2.2.2.2.2.2.2.2.2.2.2.2.1, x.2.2.2.2.2.2.2.2.2.2.2.2.2.2))
     else
      (x.2.2.2.2.1.2, ((0 : Int32), x.2.1, x.2.2.1, x.2.2.2.1, x.2.2.2.2.1, x.2.2.2.2.2.1, x.2.2.2.2.2.2.1, x.2.2.2.2.2.2.2.1, x.2.2.2.2.2.2.2.2.1, x.2.2.2.2.2.2.2.2.2.1, x.2.2.2.2.2.2.2.2.2.2.1, x.2.2.2.2.2.2.2.2.2.2.2.1, x.2.2.2.2.2.2.2.2.2.2.2.2.1, x.2.2.2.2.2.2.2.2.2.2.2.2.2.1, x.2.2.2.2.2.2.2.2.2.2.2.2.2.2))
   else
    ((0 : Int64), ((1 : Int32), x.2.1, x.2.2.1, x.2.2.2.1, x.2.2.2.2.1, x.2.2.2.2.2.1, x.2.2.2.2.2.2.1, x.2.2.2.2.2.2.2.1, x.2.2.2.2.2.2.2.2.1, x.2.2.2.2.2.2.2.2.2.1, x.2.2.2.2.2.2.2.2.2.2.1, x.2.2.2.2.2.2.2.2.2.2.2.1, x.2.2.2.2.2.2.2.2.2.2.2.2.1, x.2.2.2.2.2.2.2.2.2.2.2.2.2.1, x.2.2.2.2.2.2.2.2.2.2.2.2.2.2))
abbrev ivX5_getP (z : Int64 × TM) : Prop := iM z.2
set_option maxRecDepth 100000 in
set_option maxHeartbeats 4000000 in
theorem ivX5_get (x : TM) (a0 : Int32) (hI : iM x) : ivX5_getP (fnX5_get x a0) := by
  unfold fnX5_get
  try dsimp only
  refine iteI (fun h1 => ?_) (fun h1 => ?_)
  · exact ⟨hI.1, hI.2.1, hI.2.2.1, hI.2.2.2.1, hI.2.2.2.2.1, hI.2.2.2.2.2.1, hI.2.2.2.2.2.2.1, hI.2.2.2.2.2.2.2⟩
  · refine iteI (fun h2 => ?_) (fun h2 => ?_)
    · refine iteI (fun h3 => ?_) (fun h3 => ?_)
      · refine iteI (fun h4 => ?_) (fun h4 => ?_)
        · refine iteI (fun h5 => ?_) (fun h5 => ?_)
          · generalize fnX5_pointer x.2.2.2.2.2.2.2.1.1 x.2.2.2.2.2.2.2.1.2.1 x.2.2.2.2.2.2.2.1.2.2 = p6
            exact ⟨hI.1, hI.2.1, hI.2.2.1, hI.2.2.2.1, hI.2.2.2.2.1, hI.2.2.2.2.2.1, hI.2.2.2.2.2.2.1, hI.2.2.2.2.2.2.2⟩
          · generalize fnX5_pointer (x.2.2.2.2.2.2.1.1 ((a0 - (6 : Int32))).toNatClampNeg) (x.2.2.2.2.2.2.1.2.1 ((a0 - (6 : Int32))).toNatClampNeg) (x.2.2.2.2.2.2.1.2.2 ((a0 - (6 : Int32))).toNatClampNeg) = p7
            exact ⟨hI.1, hI.2.1, hI.2.2.1, hI.2.2.2.1, hI.2.2.2.2.1, hI.2.2.2.2.2.1, hI.2.2.2.2.2.2.1, hI.2.2.2.2.2.2.2⟩
        · exact ⟨hI.1, hI.2.1, hI.2.2.1, hI.2.2.2.1, hI.2.2.2.2.1, hI.2.2.2.2.2.1, hI.2.2.2.2.2.2.1, hI.2.2.2.2.2.2.2⟩
      · refine iteI (fun h8 => ?_) (fun h8 => ?_)
        · exact ⟨hI.1, hI.2.1, hI.2.2.1, hI.2.2.2.1, hI.2.2.2.2.1, hI.2.2.2.2.2.1, hI.2.2.2.2.2.2.1, hI.2.2.2.2.2.2.2⟩
        · exact ⟨hI.1, hI.2.1, hI.2.2.1, hI.2.2.2.1, hI.2.2.2.2.1, hI.2.2.2.2.2.1, hI.2.2.2.2.2.2.1, hI.2.2.2.2.2.2.2⟩
    · exact ⟨hI.1, hI.2.1, hI.2.2.1, hI.2.2.2.1, hI.2.2.2.2.1, hI.2.2.2.2.2.1, hI.2.2.2.2.2.2.1, hI.2.2.2.2.2.2.2⟩
set_option maxRecDepth 100000 in
set_option maxHeartbeats 4000000 in
theorem okX5_get (l : Launch) (D : va_G) (cI cJ cP : ClassId) (ad : Nat → Nat) (sz : Nat) (x : TM) (a0 : Int32) (hI : iM x) : Met l yX5_get (Cond.code yX5_get cX5_get 2 (some .long) :: gG) { frames := 1, cells := 0, slots := 0, locals := 22 } (va_Pc [.ref (ad 0), .int a0] (PRE D (tz cI cJ cP) sz (wM cI cJ ad x))) (va_Ql (fun (r : Int64) (u : TM) => (r, u) = fnX5_get x a0) (AT D (tz cI cJ cP) (va_A (wM cI cJ ad x) sz) (fun (u : TM) => (wM cI cJ ad u))) (va_A (wM cI cJ ad x) sz)) 0 0 (va_A (wM cI cJ ad x) sz) := by
  refine mo (QA := fun A => va_Ql (fun (r : Int64) (u : TM) => (r, u) = fnX5_get x a0) (AT D (tz cI cJ cP) A (fun (u : TM) => (wM cI cJ ad u))) A) (by decide) (Nat.le_of_ble_eq_true rfl) ?_
  intro p e s m below meth c A ls H hx hb hr hml hown hG hlocks hnm hA hS hP hK hD hl hN
  have hown : s.vm.findClass RX5 = some m.cls := hown
  have hl : lv_has ls 2 [(0, .ref (ad 0)), (1, .int a0)] := hl
  refine lv_aload_n hx hb dX5_get_0 rfl (lv_at hl 0 rfl) ?_
  refine lv_iload_n hx hb dX5_get_1 rfl (lv_at hl 1 rfl) ?_
  refine lv_if_lt (tgt := 11) hx hb dX5_get_2 (by decide) (fun h1 => ?_) (fun h1 => ?_)
  · refine lv_iconst (v := 1) hx hb dX5_get_11 (by decide) ?_
    refine lv_goto (tgt := 16) hx hb dX5_get_12 (by decide) ?_
    refine pu (D := D) (ci := 5) (v := .int ((1 : Int32))) (ty := .int) (W' := (wM cI cJ ad ((1 : Int32), x.2.1, x.2.2.1, x.2.2.2.1, x.2.2.2.2.1, x.2.2.2.2.2.1, x.2.2.2.2.2.2.1, x.2.2.2.2.2.2.2.1, x.2.2.2.2.2.2.2.2.1, x.2.2.2.2.2.2.2.2.2.1, x.2.2.2.2.2.2.2.2.2.2.1, x.2.2.2.2.2.2.2.2.2.2.2.1, x.2.2.2.2.2.2.2.2.2.2.2.2.1, x.2.2.2.2.2.2.2.2.2.2.2.2.2.1, x.2.2.2.2.2.2.2.2.2.2.2.2.2.2))) hx hb hG inX5 tyX5 tyokX5 nmX5 hown hK hP hD hS 0 rfl rfl 0 (by decide) (hG _ kw241) (fun _ h9 => h9) rfl (by decide +kernel) rfl rfl (Nat.le_of_ble_eq_true rfl) dX5_get_16 rfl (fun H locs hP hD hS => ?_)
    refine lv_aload_n hx hb dX5_get_19 rfl (lv_at hl 0 rfl) ?_
    refine va_get (D := D) (ci := 5) (v := .int ((1 : Int32))) hx hb hG inX5 hown hK hP 0 rfl rfl 0 (by decide) (hG _ kw241) (fun _ h9 => h9) rfl dX5_get_20 ?_
    refine lv_if_le (tgt := 28) hx hb dX5_get_23 (by decide) (fun h9 => absurd h9 (by decide)) (fun _ => ?_)
    refine lv_lconst (v := 0) hx hb dX5_get_26 (by decide) ?_
    exact retl (u := ((1 : Int32), x.2.1, x.2.2.1, x.2.2.2.1, x.2.2.2.2.1, x.2.2.2.2.2.1, x.2.2.2.2.2.2.1, x.2.2.2.2.2.2.2.1, x.2.2.2.2.2.2.2.2.1, x.2.2.2.2.2.2.2.2.2.1, x.2.2.2.2.2.2.2.2.2.2.1, x.2.2.2.2.2.2.2.2.2.2.2.1, x.2.2.2.2.2.2.2.2.2.2.2.2.1, x.2.2.2.2.2.2.2.2.2.2.2.2.2.1, x.2.2.2.2.2.2.2.2.2.2.2.2.2.2)) hx hb hr hlocks hK hP hD hS dX5_get_27 (by unfold fnX5_get; (try dsimp only); rw [if_pos h1]; (try exact rfl))
  · refine lv_iload_n hx hb dX5_get_5 rfl (lv_at hl 1 rfl) ?_
    refine lv_bipush (v := 10) hx hb dX5_get_6 (by decide) ?_
    refine lv_icmp_le (tgt := 15) hx hb dX5_get_8 (by decide) (fun h2 => ?_) (fun h2 => ?_)
    · refine lv_iconst (v := 0) hx hb dX5_get_15 (by decide) ?_
      refine pu (D := D) (ci := 5) (v := .int ((0 : Int32))) (ty := .int) (W' := (wM cI cJ ad ((0 : Int32), x.2.1, x.2.2.1, x.2.2.2.1, x.2.2.2.2.1, x.2.2.2.2.2.1, x.2.2.2.2.2.2.1, x.2.2.2.2.2.2.2.1, x.2.2.2.2.2.2.2.2.1, x.2.2.2.2.2.2.2.2.2.1, x.2.2.2.2.2.2.2.2.2.2.1, x.2.2.2.2.2.2.2.2.2.2.2.1, x.2.2.2.2.2.2.2.2.2.2.2.2.1, x.2.2.2.2.2.2.2.2.2.2.2.2.2.1, x.2.2.2.2.2.2.2.2.2.2.2.2.2.2))) hx hb hG inX5 tyX5 tyokX5 nmX5 hown hK hP hD hS 0 rfl rfl 0 (by decide) (hG _ kw241) (fun _ h9 => h9) rfl (by decide +kernel) rfl rfl (Nat.le_of_ble_eq_true rfl) dX5_get_16 rfl (fun H locs hP hD hS => ?_)
      refine lv_aload_n hx hb dX5_get_19 rfl (lv_at hl 0 rfl) ?_
      refine va_get (D := D) (ci := 5) (v := .int ((0 : Int32))) hx hb hG inX5 hown hK hP 0 rfl rfl 0 (by decide) (hG _ kw241) (fun _ h9 => h9) rfl dX5_get_20 ?_
      refine lv_if_le (tgt := 28) hx hb dX5_get_23 (by decide) (fun _ => ?_) (fun h9 => absurd (by decide) h9)
      refine lv_iload_n hx hb dX5_get_28 rfl (lv_at hl 1 rfl) ?_
      refine lv_iconst (v := 2) hx hb dX5_get_29 (by decide) ?_
      refine lv_icmp_ge (tgt := 49) hx hb dX5_get_30 (by decide) (fun h3 => ?_) (fun h3 => ?_)
      · refine lv_iload_n hx hb dX5_get_49 rfl (lv_at hl 1 rfl) ?_
        refine lv_bipush (v := 6) hx hb dX5_get_50 (by decide) ?_
        refine lv_icmp_ge (tgt := 65) hx hb dX5_get_52 (by decide) (fun h4 => ?_) (fun h4 => ?_)
        · refine lv_iload_n hx hb dX5_get_65 rfl (lv_at hl 1 rfl) ?_
          refine lv_bipush (v := 10) hx hb dX5_get_66 (by decide) ?_
          refine lv_icmp_ge (tgt := 104) hx hb dX5_get_68 (by decide) (fun h5 => ?_) (fun h5 => ?_)
          · refine lv_aload_n hx hb dX5_get_104 rfl (lv_at hl 0 rfl) ?_
            refine va_get (D := D) (ci := 5) (v := .int (x.2.2.2.2.2.2.2.1.1)) hx hb hG inX5 hown hK hP 0 rfl rfl 15 (by decide) (hG _ kw245) (fun _ h9 => h9) rfl dX5_get_105 ?_
            refine lv_aload_n hx hb dX5_get_108 rfl (lv_at hl 0 rfl) ?_
            refine va_get (D := D) (ci := 5) (v := .int (x.2.2.2.2.2.2.2.1.2.1)) hx hb hG inX5 hown hK hP 0 rfl rfl 16 (by decide) (hG _ kw246) (fun _ h9 => h9) rfl dX5_get_109 ?_
            refine lv_aload_n hx hb dX5_get_112 rfl (lv_at hl 0 rfl) ?_
            refine va_get (D := D) (ci := 5) (v := .int (x.2.2.2.2.2.2.2.1.2.2)) hx hb hG inX5 hown hK hP 0 rfl rfl 17 (by decide) (hG _ kw309) (fun _ h9 => h9) rfl dX5_get_113 ?_
            refine k0Sl (As := [.int (x.2.2.2.2.2.2.2.1.1), .int (x.2.2.2.2.2.2.2.1.2.1), .int (x.2.2.2.2.2.2.2.1.2.2)]) (rest := []) hx hb hml hown hG hl (okX5_pointer l D cI cJ cP  H.size x.2.2.2.2.2.2.2.1.1 x.2.2.2.2.2.2.2.1.2.1 x.2.2.2.2.2.2.2.1.2.2 ) (cS 3 hG kw324 kw325 kw326 kw238 hdX5_pointer ⟨by decide, by decide⟩) hK hP hD hS hA hN rfl rfl (Nat.le_of_ble_eq_true rfl) dX5_get_116 ⟨Nat.zero_le _, Nat.zero_le _⟩ (fun r6 q6 H locs hP hD hS => ?_)
            exact retl (u := ((0 : Int32), x.2.1, x.2.2.1, x.2.2.2.1, x.2.2.2.2.1, x.2.2.2.2.2.1, x.2.2.2.2.2.2.1, x.2.2.2.2.2.2.2.1, x.2.2.2.2.2.2.2.2.1, x.2.2.2.2.2.2.2.2.2.1, x.2.2.2.2.2.2.2.2.2.2.1, x.2.2.2.2.2.2.2.2.2.2.2.1, x.2.2.2.2.2.2.2.2.2.2.2.2.1, x.2.2.2.2.2.2.2.2.2.2.2.2.2.1, x.2.2.2.2.2.2.2.2.2.2.2.2.2.2)) hx hb hr hlocks hK hP hD hS dX5_get_119 (by unfold fnX5_get; (try dsimp only); rw [if_neg h1]; rw [if_pos h2]; rw [if_pos h3]; rw [if_pos h4]; rw [if_pos h5]; rw [← q6]; (try dsimp only); (try exact rfl))
          · refine lv_aload_n hx hb dX5_get_71 rfl (lv_at hl 0 rfl) ?_
            refine va_get (D := D) (ci := 5) (v := .ref (ad 8)) hx hb hG inX5 hown hK hP 0 rfl rfl 12 (by decide) (hG _ kw293) (fun _ h9 => h9) rfl dX5_get_72 ?_
            refine lv_iload_n hx hb dX5_get_75 rfl (lv_at hl 1 rfl) ?_
            refine lv_bipush (v := 6) hx hb dX5_get_76 (by decide) ?_
            refine lv_isub hx hb dX5_get_78 ?_
            refine gi (D := D) (j := ((a0 - (6 : Int32))).toNatClampNeg) (f := x.2.2.2.2.2.2.1.1) hx hb hK hP 8 0 rfl rfl (in2 (kp6 (mkI h1 h2 (by decide)) h4 h5)) rfl dX5_get_79 ?_
            refine lv_aload_n hx hb dX5_get_80 rfl (lv_at hl 0 rfl) ?_
            refine va_get (D := D) (ci := 5) (v := .ref (ad 9)) hx hb hG inX5 hown hK hP 0 rfl rfl 13 (by decide) (hG _ kw294) (fun _ h9 => h9) rfl dX5_get_81 ?_
            refine lv_iload_n hx hb dX5_get_84 rfl (lv_at hl 1 rfl) ?_
            refine lv_bipush (v := 6) hx hb dX5_get_85 (by decide) ?_
            refine lv_isub hx hb dX5_get_87 ?_
            refine gi (D := D) (j := ((a0 - (6 : Int32))).toNatClampNeg) (f := x.2.2.2.2.2.2.1.2.1) hx hb hK hP 9 0 rfl rfl (in2 (kp6 (mkI h1 h2 (by decide)) h4 h5)) rfl dX5_get_88 ?_
            refine lv_aload_n hx hb dX5_get_89 rfl (lv_at hl 0 rfl) ?_
            refine va_get (D := D) (ci := 5) (v := .ref (ad 10)) hx hb hG inX5 hown hK hP 0 rfl rfl 14 (by decide) (hG _ kw295) (fun _ h9 => h9) rfl dX5_get_90 ?_
            refine lv_iload_n hx hb dX5_get_93 rfl (lv_at hl 1 rfl) ?_
            refine lv_bipush (v := 6) hx hb dX5_get_94 (by decide) ?_
            refine lv_isub hx hb dX5_get_96 ?_
            refine gi (D := D) (j := ((a0 - (6 : Int32))).toNatClampNeg) (f := x.2.2.2.2.2.2.1.2.2) hx hb hK hP 10 0 rfl rfl (in2 (kp6 (mkI h1 h2 (by decide)) h4 h5)) rfl dX5_get_97 ?_
            refine k0Sl (As := [.int ((x.2.2.2.2.2.2.1.1 ((a0 - (6 : Int32))).toNatClampNeg)), .int ((x.2.2.2.2.2.2.1.2.1 ((a0 - (6 : Int32))).toNatClampNeg)), .int ((x.2.2.2.2.2.2.1.2.2 ((a0 - (6 : Int32))).toNatClampNeg))]) (rest := []) hx hb hml hown hG hl (okX5_pointer l D cI cJ cP  H.size (x.2.2.2.2.2.2.1.1 ((a0 - (6 : Int32))).toNatClampNeg) (x.2.2.2.2.2.2.1.2.1 ((a0 - (6 : Int32))).toNatClampNeg) (x.2.2.2.2.2.2.1.2.2 ((a0 - (6 : Int32))).toNatClampNeg) ) (cS 3 hG kw324 kw325 kw326 kw238 hdX5_pointer ⟨by decide, by decide⟩) hK hP hD hS hA hN rfl rfl (Nat.le_of_ble_eq_true rfl) dX5_get_98 ⟨Nat.zero_le _, Nat.zero_le _⟩ (fun r7 q7 H locs hP hD hS => ?_)
            refine lv_goto (tgt := 119) hx hb dX5_get_101 (by decide) ?_
            exact retl (u := ((0 : Int32), x.2.1, x.2.2.1, x.2.2.2.1, x.2.2.2.2.1, x.2.2.2.2.2.1, x.2.2.2.2.2.2.1, x.2.2.2.2.2.2.2.1, x.2.2.2.2.2.2.2.2.1, x.2.2.2.2.2.2.2.2.2.1, x.2.2.2.2.2.2.2.2.2.2.1, x.2.2.2.2.2.2.2.2.2.2.2.1, x.2.2.2.2.2.2.2.2.2.2.2.2.1, x.2.2.2.2.2.2.2.2.2.2.2.2.2.1, x.2.2.2.2.2.2.2.2.2.2.2.2.2.2)) hx hb hr hlocks hK hP hD hS dX5_get_119 (by unfold fnX5_get; (try dsimp only); rw [if_neg h1]; rw [if_pos h2]; rw [if_pos h3]; rw [if_pos h4]; rw [if_neg h5]; rw [← q7]; (try dsimp only); (try exact rfl))
        · refine lv_aload_n hx hb dX5_get_55 rfl (lv_at hl 0 rfl) ?_
          refine va_get (D := D) (ci := 5) (v := .ref (ad 7)) hx hb hG inX5 hown hK hP 0 rfl rfl 11 (by decide) (hG _ kw335) (fun _ h9 => h9) rfl dX5_get_56 ?_
          refine lv_iload_n hx hb dX5_get_59 rfl (lv_at hl 1 rfl) ?_
          refine lv_iconst (v := 2) hx hb dX5_get_60 (by decide) ?_
          refine lv_isub hx hb dX5_get_61 ?_
          refine gi (D := D) (j := ((a0 - (2 : Int32))).toNatClampNeg) (f := x.2.2.2.2.2.1) hx hb hK hP 7 0 rfl rfl (in2 (kxg (mkI h1 h2 (by decide)) h3 h4)) rfl dX5_get_62 ?_
          refine lv_i2l hx hb dX5_get_63 rfl ?_
          exact retl (u := ((0 : Int32), x.2.1, x.2.2.1, x.2.2.2.1, x.2.2.2.2.1, x.2.2.2.2.2.1, x.2.2.2.2.2.2.1, x.2.2.2.2.2.2.2.1, x.2.2.2.2.2.2.2.2.1, x.2.2.2.2.2.2.2.2.2.1, x.2.2.2.2.2.2.2.2.2.2.1, x.2.2.2.2.2.2.2.2.2.2.2.1, x.2.2.2.2.2.2.2.2.2.2.2.2.1, x.2.2.2.2.2.2.2.2.2.2.2.2.2.1, x.2.2.2.2.2.2.2.2.2.2.2.2.2.2)) hx hb hr hlocks hK hP hD hS dX5_get_64 (by unfold fnX5_get; (try dsimp only); rw [if_neg h1]; rw [if_pos h2]; rw [if_pos h3]; rw [if_neg h4]; (try exact rfl))
      · refine lv_iload_n hx hb dX5_get_33 rfl (lv_at hl 1 rfl) ?_
        refine lv_if_ne (tgt := 44) hx hb dX5_get_34 (by decide) (fun h8 => ?_) (fun h8 => ?_)
        · refine lv_aload_n hx hb dX5_get_44 rfl (lv_at hl 0 rfl) ?_
          refine va_get (D := D) (ci := 5) (v := .long (x.2.2.2.2.1.2)) hx hb hG inX5 hown hK hP 0 rfl rfl 10 (by decide) (hG _ kw308) (fun _ h9 => h9) rfl dX5_get_45 ?_
          exact retl (u := ((0 : Int32), x.2.1, x.2.2.1, x.2.2.2.1, x.2.2.2.2.1, x.2.2.2.2.2.1, x.2.2.2.2.2.2.1, x.2.2.2.2.2.2.2.1, x.2.2.2.2.2.2.2.2.1, x.2.2.2.2.2.2.2.2.2.1, x.2.2.2.2.2.2.2.2.2.2.1, x.2.2.2.2.2.2.2.2.2.2.2.1, x.2.2.2.2.2.2.2.2.2.2.2.2.1, x.2.2.2.2.2.2.2.2.2.2.2.2.2.1, x.2.2.2.2.2.2.2.2.2.2.2.2.2.2)) hx hb hr hlocks hK hP hD hS dX5_get_48 (by unfold fnX5_get; (try dsimp only); rw [if_neg h1]; rw [if_pos h2]; rw [if_neg h3]; rw [if_neg h8]; (try exact rfl))
        · refine lv_aload_n hx hb dX5_get_37 rfl (lv_at hl 0 rfl) ?_
          refine va_get (D := D) (ci := 5) (v := .long (x.2.2.2.2.1.1)) hx hb hG inX5 hown hK hP 0 rfl rfl 9 (by decide) (hG _ kw307) (fun _ h9 => h9) rfl dX5_get_38 ?_
          refine lv_goto (tgt := 48) hx hb dX5_get_41 (by decide) ?_
          exact retl (u := ((0 : Int32), x.2.1, x.2.2.1, x.2.2.2.1, x.2.2.2.2.1, x.2.2.2.2.2.1, x.2.2.2.2.2.2.1, x.2.2.2.2.2.2.2.1, x.2.2.2.2.2.2.2.2.1, x.2.2.2.2.2.2.2.2.2.1, x.2.2.2.2.2.2.2.2.2.2.1, x.2.2.2.2.2.2.2.2.2.2.2.1, x.2.2.2.2.2.2.2.2.2.2.2.2.1, x.2.2.2.2.2.2.2.2.2.2.2.2.2.1, x.2.2.2.2.2.2.2.2.2.2.2.2.2.2)) hx hb hr hlocks hK hP hD hS dX5_get_48 (by unfold fnX5_get; (try dsimp only); rw [if_neg h1]; rw [if_pos h2]; rw [if_neg h3]; rw [if_pos h8]; (try exact rfl))
    · refine lv_iconst (v := 1) hx hb dX5_get_11 (by decide) ?_
      refine lv_goto (tgt := 16) hx hb dX5_get_12 (by decide) ?_
      refine pu (D := D) (ci := 5) (v := .int ((1 : Int32))) (ty := .int) (W' := (wM cI cJ ad ((1 : Int32), x.2.1, x.2.2.1, x.2.2.2.1, x.2.2.2.2.1, x.2.2.2.2.2.1, x.2.2.2.2.2.2.1, x.2.2.2.2.2.2.2.1, x.2.2.2.2.2.2.2.2.1, x.2.2.2.2.2.2.2.2.2.1, x.2.2.2.2.2.2.2.2.2.2.1, x.2.2.2.2.2.2.2.2.2.2.2.1, x.2.2.2.2.2.2.2.2.2.2.2.2.1, x.2.2.2.2.2.2.2.2.2.2.2.2.2.1, x.2.2.2.2.2.2.2.2.2.2.2.2.2.2))) hx hb hG inX5 tyX5 tyokX5 nmX5 hown hK hP hD hS 0 rfl rfl 0 (by decide) (hG _ kw241) (fun _ h9 => h9) rfl (by decide +kernel) rfl rfl (Nat.le_of_ble_eq_true rfl) dX5_get_16 rfl (fun H locs hP hD hS => ?_)
      refine lv_aload_n hx hb dX5_get_19 rfl (lv_at hl 0 rfl) ?_
      refine va_get (D := D) (ci := 5) (v := .int ((1 : Int32))) hx hb hG inX5 hown hK hP 0 rfl rfl 0 (by decide) (hG _ kw241) (fun _ h9 => h9) rfl dX5_get_20 ?_
      refine lv_if_le (tgt := 28) hx hb dX5_get_23 (by decide) (fun h9 => absurd h9 (by decide)) (fun _ => ?_)
      refine lv_lconst (v := 0) hx hb dX5_get_26 (by decide) ?_
      exact retl (u := ((1 : Int32), x.2.1, x.2.2.1, x.2.2.2.1, x.2.2.2.2.1, x.2.2.2.2.2.1, x.2.2.2.2.2.2.1, x.2.2.2.2.2.2.2.1, x.2.2.2.2.2.2.2.2.1, x.2.2.2.2.2.2.2.2.2.1, x.2.2.2.2.2.2.2.2.2.2.1, x.2.2.2.2.2.2.2.2.2.2.2.1, x.2.2.2.2.2.2.2.2.2.2.2.2.1, x.2.2.2.2.2.2.2.2.2.2.2.2.2.1, x.2.2.2.2.2.2.2.2.2.2.2.2.2.2)) hx hb hr hlocks hK hP hD hS dX5_get_27 (by unfold fnX5_get; (try dsimp only); rw [if_neg h1]; rw [if_neg h2]; (try exact rfl))
def fnX5_go (x : TM)  : TM :=
  ((0 : Int32), x.2.1, x.2.2.1, x.2.2.2.1, x.2.2.2.2.1, x.2.2.2.2.2.1, x.2.2.2.2.2.2.1, x.2.2.2.2.2.2.2.1, ((0 : Int32), (0 : Int32), x.2.2.2.2.2.2.2.2.1.2.2.1, x.2.2.2.2.2.2.2.2.1.2.2.2), x.2.2.2.2.2.2.2.2.2.1, x.2.2.2.2.2.2.2.2.2.2.1, x.2.2.2.2.2.2.2.2.2.2.2.1, x.2.2.2.2.2.2.2.2.2.2.2.2.1, x.2.2.2.2.2.2.2.2.2.2.2.2.2.1, x.2.2.2.2.2.2.2.2.2.2.2.2.2.2)
abbrev ivX5_goP (z : TM) : Prop := iM z
set_option maxRecDepth 100000 in
set_option maxHeartbeats 4000000 in
theorem ivX5_go (x : TM)  (hI : iM x) : ivX5_goP (fnX5_go x) := by
  unfold fnX5_go
  try dsimp only
  exact ⟨hI.1, hI.2.1, hI.2.2.1, hI.2.2.2.1, hI.2.2.2.2.1, hI.2.2.2.2.2.1, hI.2.2.2.2.2.2.1, hI.2.2.2.2.2.2.2⟩
set_option maxRecDepth 100000 in
set_option maxHeartbeats 4000000 in
theorem okX5_go (l : Launch) (D : va_G) (cI cJ cP : ClassId) (ad : Nat → Nat) (sz : Nat) (x : TM)  (hI : iM x) : Met l yX5_go (Cond.code yX5_go cX5_go 1 none :: gG) { frames := 0, cells := 0, slots := 0, locals := 0 } (va_Pc [.ref (ad 0)] (PRE D (tz cI cJ cP) sz (wM cI cJ ad x))) (va_Qv (fun (u : TM) => u = fnX5_go x) (AT D (tz cI cJ cP) (va_A (wM cI cJ ad x) sz) (fun (u : TM) => (wM cI cJ ad u))) (va_A (wM cI cJ ad x) sz)) 0 0 (va_A (wM cI cJ ad x) sz) := by
  refine mo (QA := fun A => va_Qv (fun (u : TM) => u = fnX5_go x) (AT D (tz cI cJ cP) A (fun (u : TM) => (wM cI cJ ad u))) A) (by decide) (Nat.le_of_ble_eq_true rfl) ?_
  intro p e s m below meth c A ls H hx hb hr hml hown hG hlocks hnm hA hS hP hK hD hl hN
  have hown : s.vm.findClass RX5 = some m.cls := hown
  have hl : lv_has ls 1 [(0, .ref (ad 0))] := hl
  refine lv_aload_n hx hb dX5_go_0 rfl (lv_at hl 0 rfl) ?_
  refine lv_iconst (v := 0) hx hb dX5_go_1 (by decide) ?_
  refine pu (D := D) (ci := 5) (v := .int ((0 : Int32))) (ty := .int) (W' := (wM cI cJ ad ((0 : Int32), x.2.1, x.2.2.1, x.2.2.2.1, x.2.2.2.2.1, x.2.2.2.2.2.1, x.2.2.2.2.2.2.1, x.2.2.2.2.2.2.2.1, x.2.2.2.2.2.2.2.2.1, x.2.2.2.2.2.2.2.2.2.1, x.2.2.2.2.2.2.2.2.2.2.1, x.2.2.2.2.2.2.2.2.2.2.2.1, x.2.2.2.2.2.2.2.2.2.2.2.2.1, x.2.2.2.2.2.2.2.2.2.2.2.2.2.1, x.2.2.2.2.2.2.2.2.2.2.2.2.2.2))) hx hb hG inX5 tyX5 tyokX5 nmX5 hown hK hP hD hS 0 rfl rfl 0 (by decide) (hG _ kw241) (fun _ h9 => h9) rfl (by decide +kernel) rfl rfl (Nat.le_of_ble_eq_true rfl) dX5_go_2 rfl (fun H locs hP hD hS => ?_)
  refine lv_aload_n hx hb dX5_go_5 rfl (lv_at hl 0 rfl) ?_
  refine lv_iconst (v := 0) hx hb dX5_go_6 (by decide) ?_
  refine pu (D := D) (ci := 5) (v := .int ((0 : Int32))) (ty := .boolean) (W' := (wM cI cJ ad ((0 : Int32), x.2.1, x.2.2.1, x.2.2.2.1, x.2.2.2.2.1, x.2.2.2.2.2.1, x.2.2.2.2.2.2.1, x.2.2.2.2.2.2.2.1, (x.2.2.2.2.2.2.2.2.1.1, (0 : Int32), x.2.2.2.2.2.2.2.2.1.2.2.1, x.2.2.2.2.2.2.2.2.1.2.2.2), x.2.2.2.2.2.2.2.2.2.1, x.2.2.2.2.2.2.2.2.2.2.1, x.2.2.2.2.2.2.2.2.2.2.2.1, x.2.2.2.2.2.2.2.2.2.2.2.2.1, x.2.2.2.2.2.2.2.2.2.2.2.2.2.1, x.2.2.2.2.2.2.2.2.2.2.2.2.2.2))) hx hb hG inX5 tyX5 tyokX5 nmX5 hown hK hP hD hS 0 rfl rfl 19 (by decide) (hG _ kw315) (fun _ h9 => h9) rfl (by decide +kernel) rfl rfl (Nat.le_of_ble_eq_true rfl) dX5_go_7 rfl (fun H locs hP hD hS => ?_)
  refine lv_aload_n hx hb dX5_go_10 rfl (lv_at hl 0 rfl) ?_
  refine lv_iconst (v := 0) hx hb dX5_go_11 (by decide) ?_
  refine pu (D := D) (ci := 5) (v := .int ((0 : Int32))) (ty := .boolean) (W' := (wM cI cJ ad ((0 : Int32), x.2.1, x.2.2.1, x.2.2.2.1, x.2.2.2.2.1, x.2.2.2.2.2.1, x.2.2.2.2.2.2.1, x.2.2.2.2.2.2.2.1, ((0 : Int32), (0 : Int32), x.2.2.2.2.2.2.2.2.1.2.2.1, x.2.2.2.2.2.2.2.2.1.2.2.2), x.2.2.2.2.2.2.2.2.2.1, x.2.2.2.2.2.2.2.2.2.2.1, x.2.2.2.2.2.2.2.2.2.2.2.1, x.2.2.2.2.2.2.2.2.2.2.2.2.1, x.2.2.2.2.2.2.2.2.2.2.2.2.2.1, x.2.2.2.2.2.2.2.2.2.2.2.2.2.2))) hx hb hG inX5 tyX5 tyokX5 nmX5 hown hK hP hD hS 0 rfl rfl 18 (by decide) (hG _ kw314) (fun _ h9 => h9) rfl (by decide +kernel) rfl rfl (Nat.le_of_ble_eq_true rfl) dX5_go_12 rfl (fun H locs hP hD hS => ?_)
  exact retv (u := ((0 : Int32), x.2.1, x.2.2.1, x.2.2.2.1, x.2.2.2.2.1, x.2.2.2.2.2.1, x.2.2.2.2.2.2.1, x.2.2.2.2.2.2.2.1, ((0 : Int32), (0 : Int32), x.2.2.2.2.2.2.2.2.1.2.2.1, x.2.2.2.2.2.2.2.2.1.2.2.2), x.2.2.2.2.2.2.2.2.2.1, x.2.2.2.2.2.2.2.2.2.2.1, x.2.2.2.2.2.2.2.2.2.2.2.1, x.2.2.2.2.2.2.2.2.2.2.2.2.1, x.2.2.2.2.2.2.2.2.2.2.2.2.2.1, x.2.2.2.2.2.2.2.2.2.2.2.2.2.2)) hx hb hr hlocks hK hP hD hS dX5_go_15 (by unfold fnX5_go; (try exact rfl))
def fnX5_interrupt (x : TM) (a0 : Int32) : TM :=
  if a0 < (0 : Int32) then
   ((1 : Int32), x.2.1, x.2.2.1, x.2.2.2.1, x.2.2.2.2.1, x.2.2.2.2.2.1, x.2.2.2.2.2.2.1, x.2.2.2.2.2.2.2.1, x.2.2.2.2.2.2.2.2.1, x.2.2.2.2.2.2.2.2.2.1, x.2.2.2.2.2.2.2.2.2.2.1, x.2.2.2.2.2.2.2.2.2.2.2.1, x.2.2.2.2.2.2.2.2.2.2.2.2.1, x.2.2.2.2.2.2.2.2.2.2.2.2.2.1, x.2.2.2.2.2.2.2.2.2.2.2.2.2.2)
  else
   if a0 ≤ (3 : Int32) then
    ((0 : Int32), x.2.1, x.2.2.1, x.2.2.2.1, x.2.2.2.2.1, x.2.2.2.2.2.1, x.2.2.2.2.2.2.1, x.2.2.2.2.2.2.2.1, (x.2.2.2.2.2.2.2.2.1.1, x.2.2.2.2.2.2.2.2.1.2.1, (x.2.2.2.2.2.2.2.2.1.2.2.1 ||| ((1 : Int32) <<< (a0 &&& 31))), x.2.2.2.2.2.2.2.2.1.2.2.2), x.2.2.2.2.2.2.2.2.2.1, x.2.2.2.2.2.2.2.2.2.2.1, x.2.2.2.2.2.2.2.2.2.2.2.1, x.2.2.2.2.2.2.2.2.2.2.2.2.1, x.2.2.2.2.2.2.2.2.2.2.2.2.2.1, x.2.2.2.2.2.2.2.2.2.2.2.2.2.2)
   else
    ((1 : Int32), x.2.1, x.2.2.1, x.2.2.2.1, x.2.2.2.2.1, x.2.2.2.2.2.1, x.2.2.2.2.2.2.1, x.2.2.2.2.2.2.2.1, x.2.2.2.2.2.2.2.2.1, x.2.2.2.2.2.2.2.2.2.1, x.2.2.2.2.2.2.2.2.2.2.1, x.2.2.2.2.2.2.2.2.2.2.2.1, x.2.2.2.2.2.2.2.2.2.2.2.2.1, x.2.2.2.2.2.2.2.2.2.2.2.2.2.1, x.2.2.2.2.2.2.2.2.2.2.2.2.2.2)
abbrev ivX5_interruptP (z : TM) : Prop := iM z
set_option maxRecDepth 100000 in
set_option maxHeartbeats 4000000 in
theorem ivX5_interrupt (x : TM) (a0 : Int32) (hI : iM x) : ivX5_interruptP (fnX5_interrupt x a0) := by
  unfold fnX5_interrupt
  try dsimp only
  refine iteI (fun h1 => ?_) (fun h1 => ?_)
  · exact ⟨hI.1, hI.2.1, hI.2.2.1, hI.2.2.2.1, hI.2.2.2.2.1, hI.2.2.2.2.2.1, hI.2.2.2.2.2.2.1, hI.2.2.2.2.2.2.2⟩
  · refine iteI (fun h2 => ?_) (fun h2 => ?_)
    · exact ⟨hI.1, hI.2.1, hI.2.2.1, hI.2.2.2.1, (askp hI.2.2.2.2.1 (mkI h1 h2 (by decide))), hI.2.2.2.2.2.1, hI.2.2.2.2.2.2.1, hI.2.2.2.2.2.2.2⟩
    · exact ⟨hI.1, hI.2.1, hI.2.2.1, hI.2.2.2.1, hI.2.2.2.2.1, hI.2.2.2.2.2.1, hI.2.2.2.2.2.2.1, hI.2.2.2.2.2.2.2⟩
set_option maxRecDepth 100000 in
set_option maxHeartbeats 4000000 in
theorem okX5_interrupt (l : Launch) (D : va_G) (cI cJ cP : ClassId) (ad : Nat → Nat) (sz : Nat) (x : TM) (a0 : Int32) (hI : iM x) : Met l yX5_interrupt (Cond.code yX5_interrupt cX5_interrupt 2 none :: gG) { frames := 0, cells := 0, slots := 0, locals := 0 } (va_Pc [.ref (ad 0), .int a0] (PRE D (tz cI cJ cP) sz (wM cI cJ ad x))) (va_Qv (fun (u : TM) => u = fnX5_interrupt x a0) (AT D (tz cI cJ cP) (va_A (wM cI cJ ad x) sz) (fun (u : TM) => (wM cI cJ ad u))) (va_A (wM cI cJ ad x) sz)) 0 0 (va_A (wM cI cJ ad x) sz) := by
  refine mo (QA := fun A => va_Qv (fun (u : TM) => u = fnX5_interrupt x a0) (AT D (tz cI cJ cP) A (fun (u : TM) => (wM cI cJ ad u))) A) (by decide) (Nat.le_of_ble_eq_true rfl) ?_
  intro p e s m below meth c A ls H hx hb hr hml hown hG hlocks hnm hA hS hP hK hD hl hN
  have hown : s.vm.findClass RX5 = some m.cls := hown
  have hl : lv_has ls 2 [(0, .ref (ad 0)), (1, .int a0)] := hl
  refine lv_aload_n hx hb dX5_interrupt_0 rfl (lv_at hl 0 rfl) ?_
  refine lv_iload_n hx hb dX5_interrupt_1 rfl (lv_at hl 1 rfl) ?_
  refine lv_if_lt (tgt := 10) hx hb dX5_interrupt_2 (by decide) (fun h1 => ?_) (fun h1 => ?_)
  · refine lv_iconst (v := 1) hx hb dX5_interrupt_10 (by decide) ?_
    refine lv_goto (tgt := 15) hx hb dX5_interrupt_11 (by decide) ?_
    refine pu (D := D) (ci := 5) (v := .int ((1 : Int32))) (ty := .int) (W' := (wM cI cJ ad ((1 : Int32), x.2.1, x.2.2.1, x.2.2.2.1, x.2.2.2.2.1, x.2.2.2.2.2.1, x.2.2.2.2.2.2.1, x.2.2.2.2.2.2.2.1, x.2.2.2.2.2.2.2.2.1, x.2.2.2.2.2.2.2.2.2.1, x.2.2.2.2.2.2.2.2.2.2.1, x.2.2.2.2.2.2.2.2.2.2.2.1, x.2.2.2.2.2.2.2.2.2.2.2.2.1, x.2.2.2.2.2.2.2.2.2.2.2.2.2.1, x.2.2.2.2.2.2.2.2.2.2.2.2.2.2))) hx hb hG inX5 tyX5 tyokX5 nmX5 hown hK hP hD hS 0 rfl rfl 0 (by decide) (hG _ kw241) (fun _ h9 => h9) rfl (by decide +kernel) rfl rfl (Nat.le_of_ble_eq_true rfl) dX5_interrupt_15 rfl (fun H locs hP hD hS => ?_)
    refine lv_aload_n hx hb dX5_interrupt_18 rfl (lv_at hl 0 rfl) ?_
    refine va_get (D := D) (ci := 5) (v := .int ((1 : Int32))) hx hb hG inX5 hown hK hP 0 rfl rfl 0 (by decide) (hG _ kw241) (fun _ h9 => h9) rfl dX5_interrupt_19 ?_
    refine lv_if_ne (tgt := 37) hx hb dX5_interrupt_22 (by decide) (fun _ => ?_) (fun h9 => absurd h9 (by decide))
    exact retv (u := ((1 : Int32), x.2.1, x.2.2.1, x.2.2.2.1, x.2.2.2.2.1, x.2.2.2.2.2.1, x.2.2.2.2.2.2.1, x.2.2.2.2.2.2.2.1, x.2.2.2.2.2.2.2.2.1, x.2.2.2.2.2.2.2.2.2.1, x.2.2.2.2.2.2.2.2.2.2.1, x.2.2.2.2.2.2.2.2.2.2.2.1, x.2.2.2.2.2.2.2.2.2.2.2.2.1, x.2.2.2.2.2.2.2.2.2.2.2.2.2.1, x.2.2.2.2.2.2.2.2.2.2.2.2.2.2)) hx hb hr hlocks hK hP hD hS dX5_interrupt_37 (by unfold fnX5_interrupt; (try dsimp only); rw [if_pos h1]; (try exact rfl))
  · refine lv_iload_n hx hb dX5_interrupt_5 rfl (lv_at hl 1 rfl) ?_
    refine lv_iconst (v := 3) hx hb dX5_interrupt_6 (by decide) ?_
    refine lv_icmp_le (tgt := 14) hx hb dX5_interrupt_7 (by decide) (fun h2 => ?_) (fun h2 => ?_)
    · refine lv_iconst (v := 0) hx hb dX5_interrupt_14 (by decide) ?_
      refine pu (D := D) (ci := 5) (v := .int ((0 : Int32))) (ty := .int) (W' := (wM cI cJ ad ((0 : Int32), x.2.1, x.2.2.1, x.2.2.2.1, x.2.2.2.2.1, x.2.2.2.2.2.1, x.2.2.2.2.2.2.1, x.2.2.2.2.2.2.2.1, x.2.2.2.2.2.2.2.2.1, x.2.2.2.2.2.2.2.2.2.1, x.2.2.2.2.2.2.2.2.2.2.1, x.2.2.2.2.2.2.2.2.2.2.2.1, x.2.2.2.2.2.2.2.2.2.2.2.2.1, x.2.2.2.2.2.2.2.2.2.2.2.2.2.1, x.2.2.2.2.2.2.2.2.2.2.2.2.2.2))) hx hb hG inX5 tyX5 tyokX5 nmX5 hown hK hP hD hS 0 rfl rfl 0 (by decide) (hG _ kw241) (fun _ h9 => h9) rfl (by decide +kernel) rfl rfl (Nat.le_of_ble_eq_true rfl) dX5_interrupt_15 rfl (fun H locs hP hD hS => ?_)
      refine lv_aload_n hx hb dX5_interrupt_18 rfl (lv_at hl 0 rfl) ?_
      refine va_get (D := D) (ci := 5) (v := .int ((0 : Int32))) hx hb hG inX5 hown hK hP 0 rfl rfl 0 (by decide) (hG _ kw241) (fun _ h9 => h9) rfl dX5_interrupt_19 ?_
      refine lv_if_ne (tgt := 37) hx hb dX5_interrupt_22 (by decide) (fun h9 => absurd (by decide) h9) (fun _ => ?_)
      refine lv_aload_n hx hb dX5_interrupt_25 rfl (lv_at hl 0 rfl) ?_
      refine lv_aload_n hx hb dX5_interrupt_26 rfl (lv_at hl 0 rfl) ?_
      refine va_get (D := D) (ci := 5) (v := .int (x.2.2.2.2.2.2.2.2.1.2.2.1)) hx hb hG inX5 hown hK hP 0 rfl rfl 20 (by decide) (hG _ kw348) (fun _ h9 => h9) rfl dX5_interrupt_27 ?_
      refine lv_iconst (v := 1) hx hb dX5_interrupt_30 (by decide) ?_
      refine lv_iload_n hx hb dX5_interrupt_31 rfl (lv_at hl 1 rfl) ?_
      refine lv_ishl hx hb dX5_interrupt_32 ?_
      refine lv_ior hx hb dX5_interrupt_33 ?_
      refine pu (D := D) (ci := 5) (v := .int ((x.2.2.2.2.2.2.2.2.1.2.2.1 ||| ((1 : Int32) <<< (a0 &&& 31))))) (ty := .int) (W' := (wM cI cJ ad ((0 : Int32), x.2.1, x.2.2.1, x.2.2.2.1, x.2.2.2.2.1, x.2.2.2.2.2.1, x.2.2.2.2.2.2.1, x.2.2.2.2.2.2.2.1, (x.2.2.2.2.2.2.2.2.1.1, x.2.2.2.2.2.2.2.2.1.2.1, (x.2.2.2.2.2.2.2.2.1.2.2.1 ||| ((1 : Int32) <<< (a0 &&& 31))), x.2.2.2.2.2.2.2.2.1.2.2.2), x.2.2.2.2.2.2.2.2.2.1, x.2.2.2.2.2.2.2.2.2.2.1, x.2.2.2.2.2.2.2.2.2.2.2.1, x.2.2.2.2.2.2.2.2.2.2.2.2.1, x.2.2.2.2.2.2.2.2.2.2.2.2.2.1, x.2.2.2.2.2.2.2.2.2.2.2.2.2.2))) hx hb hG inX5 tyX5 tyokX5 nmX5 hown hK hP hD hS 0 rfl rfl 20 (by decide) (hG _ kw348) (fun _ h9 => h9) rfl (by decide +kernel) rfl rfl (Nat.le_of_ble_eq_true rfl) dX5_interrupt_34 rfl (fun H locs hP hD hS => ?_)
      exact retv (u := ((0 : Int32), x.2.1, x.2.2.1, x.2.2.2.1, x.2.2.2.2.1, x.2.2.2.2.2.1, x.2.2.2.2.2.2.1, x.2.2.2.2.2.2.2.1, (x.2.2.2.2.2.2.2.2.1.1, x.2.2.2.2.2.2.2.2.1.2.1, (x.2.2.2.2.2.2.2.2.1.2.2.1 ||| ((1 : Int32) <<< (a0 &&& 31))), x.2.2.2.2.2.2.2.2.1.2.2.2), x.2.2.2.2.2.2.2.2.2.1, x.2.2.2.2.2.2.2.2.2.2.1, x.2.2.2.2.2.2.2.2.2.2.2.1, x.2.2.2.2.2.2.2.2.2.2.2.2.1, x.2.2.2.2.2.2.2.2.2.2.2.2.2.1, x.2.2.2.2.2.2.2.2.2.2.2.2.2.2)) hx hb hr hlocks hK hP hD hS dX5_interrupt_37 (by unfold fnX5_interrupt; (try dsimp only); rw [if_neg h1]; rw [if_pos h2]; (try exact rfl))
    · refine lv_iconst (v := 1) hx hb dX5_interrupt_10 (by decide) ?_
      refine lv_goto (tgt := 15) hx hb dX5_interrupt_11 (by decide) ?_
      refine pu (D := D) (ci := 5) (v := .int ((1 : Int32))) (ty := .int) (W' := (wM cI cJ ad ((1 : Int32), x.2.1, x.2.2.1, x.2.2.2.1, x.2.2.2.2.1, x.2.2.2.2.2.1, x.2.2.2.2.2.2.1, x.2.2.2.2.2.2.2.1, x.2.2.2.2.2.2.2.2.1, x.2.2.2.2.2.2.2.2.2.1, x.2.2.2.2.2.2.2.2.2.2.1, x.2.2.2.2.2.2.2.2.2.2.2.1, x.2.2.2.2.2.2.2.2.2.2.2.2.1, x.2.2.2.2.2.2.2.2.2.2.2.2.2.1, x.2.2.2.2.2.2.2.2.2.2.2.2.2.2))) hx hb hG inX5 tyX5 tyokX5 nmX5 hown hK hP hD hS 0 rfl rfl 0 (by decide) (hG _ kw241) (fun _ h9 => h9) rfl (by decide +kernel) rfl rfl (Nat.le_of_ble_eq_true rfl) dX5_interrupt_15 rfl (fun H locs hP hD hS => ?_)
      refine lv_aload_n hx hb dX5_interrupt_18 rfl (lv_at hl 0 rfl) ?_
      refine va_get (D := D) (ci := 5) (v := .int ((1 : Int32))) hx hb hG inX5 hown hK hP 0 rfl rfl 0 (by decide) (hG _ kw241) (fun _ h9 => h9) rfl dX5_interrupt_19 ?_
      refine lv_if_ne (tgt := 37) hx hb dX5_interrupt_22 (by decide) (fun _ => ?_) (fun h9 => absurd h9 (by decide))
      exact retv (u := ((1 : Int32), x.2.1, x.2.2.1, x.2.2.2.1, x.2.2.2.2.1, x.2.2.2.2.2.1, x.2.2.2.2.2.2.1, x.2.2.2.2.2.2.2.1, x.2.2.2.2.2.2.2.2.1, x.2.2.2.2.2.2.2.2.2.1, x.2.2.2.2.2.2.2.2.2.2.1, x.2.2.2.2.2.2.2.2.2.2.2.1, x.2.2.2.2.2.2.2.2.2.2.2.2.1, x.2.2.2.2.2.2.2.2.2.2.2.2.2.1, x.2.2.2.2.2.2.2.2.2.2.2.2.2.2)) hx hb hr hlocks hK hP hD hS dX5_interrupt_37 (by unfold fnX5_interrupt; (try dsimp only); rw [if_neg h1]; rw [if_neg h2]; (try exact rfl))
def fnX5_state (x : TM) (a0 : Int32) : Int32 × TM :=
  if a0 = (0 : Int32) then
   if x.2.2.2.2.2.2.2.2.1.2.1 = (0 : Int32) then
    ((0 : Int32), ((0 : Int32), x.2.1, x.2.2.1, x.2.2.2.1, x.2.2.2.2.1, x.2.2.2.2.2.1, x.2.2.2.2.2.2.1, x.2.2.2.2.2.2.2.1, x.2.2.2.2.2.2.2.2.1, x.2.2.2.2.2.2.2.2.2.1, x.2.2.2.2.2.2.2.2.2.2.1, x.2.2.2.2.2.2.2.2.2.2.2.1, x.2.2.2.2.2.2.2.2.2.2.2.2.1, x.2.2.2.2.2.2.2.2.2.2.2.2.2.1, x.2.2.2.2.2.2.2.2.2.2.2.2.2.2))
   else
    ((1 : Int32), ((0 : Int32), x.2.1, x.2.2.1, x.2.2.2.1, x.2.2.2.2.1, x.2.2.2.2.2.1, x.2.2.2.2.2.2.1, x.2.2.2.2.2.2.2.1, x.2.2.2.2.2.2.2.2.1, x.2.2.2.2.2.2.2.2.2.1, x.2.2.2.2.2.2.2.2.2.2.1, x.2.2.2.2.2.2.2.2.2.2.2.1, x.2.2.2.2.2.2.2.2.2.2.2.2.1, x.2.2.2.2.2.2.2.2.2.2.2.2.2.1, x.2.2.2.2.2.2.2.2.2.2.2.2.2.2))
  else
   if a0 = (1 : Int32) then
    if x.2.2.2.2.2.2.2.2.1.1 = (0 : Int32) then
     ((0 : Int32), ((0 : Int32), x.2.1, x.2.2.1, x.2.2.2.1, x.2.2.2.2.1, x.2.2.2.2.2.1, x.2.2.2.2.2.2.1, x.2.2.2.2.2.2.2.1, x.2.2.2.2.2.2.2.2.1, x.2.2.2.2.2.2.2.2.2.1, x.2.2.2.2.2.2.2.2.2.2.1, x.2.2.2.2.2.2.2.2.2.2.2.1, x.2.2.2.2.2.2.2.2.2.2.2.2.1, x.2.2.2.2.2.2.2.2.2.2.2.2.2.1, x.2.2.2.2.2.2.2.2.2.2.2.2.2.2))
    else
     ((1 : Int32), ((0 : Int32), x.2.1, x.2.2.1, x.2.2.2.1, x.2.2.2.2.1, x.2.2.2.2.2.1, x.2.2.2.2.2.2.1, x.2.2.2.2.2.2.2.1, x.2.2.2.2.2.2.2.2.1, x.2.2.2.2.2.2.2.2.2.1, x.2.2.2.2.2.2.2.2.2.2.1, x.2.2.2.2.2.2.2.2.2.2.2.1, x.2.2.2.2.2.2.2.2.2.2.2.2.1, x.2.2.2.2.2.2.2.2.2.2.2.2.2.1, x.2.2.2.2.2.2.2.2.2.2.2.2.2.2))
   else
    if a0 = (2 : Int32) then
     (x.2.2.2.2.2.2.2.2.2.2.1.1, ((0 : Int32), x.2.1, x.2.2.1, x.2.2.2.1, x.2.2.2.2.1, x.2.2.2.2.2.1, x.2.2.2.2.2.2.1, x.2.2.2.2.2.2.2.1, x.2.2.2.2.2.2.2.2.1, x.2.2.2.2.2.2.2.2.2.1, x.2.2.2.2.2.2.2.2.2.2.1, x.2.2.2.2.2.2.2.2.2.2.2.1, x.2.2.2.2.2.2.2.2.2.2.2.2.1, x.2.2.2.2.2.2.2.2.2.2.2.2.2.1, x.2.2.2.2.2.2.2.2.2.2.2.2.2.2))
    else
     if a0 = (3 : Int32) then
      (x.2.2.2.2.2.2.2.2.2.2.1.2.1, ((0 : Int32), x.2.1, x.2.2.1, x.2.2.2.1, x.2.2.2.2.1, x.2.2.2.2.2.1, x.2.2.2.2.2.2.1, x.2.2.2.2.2.2.2.1, x.2.2.2.2.2.2.2.2.1, x.2.2.2.2.2.2.2.2.2.1, x.2.2.2.2.2.2.2.2.2.2.1, x.2.2.2.2.2.2.2.2.2.2.2.1, x.2.2.2.2.2.2.2.2.2.2.2.2.1, x.2.2.2.2.2.2.2.2.2.2.2.2.2.1, x.2.2.2.2.2.2.2.2.2.2.2.2.2.2))
     else
      if a0 = (4 : Int32) then
       (x.2.2.2.2.2.2.2.2.2.2.1.2.2, ((0 : Int32), x.2.1, x.2.2.1, x.2.2.2.1, x.2.2.2.2.1, x.2.2.2.2.2.1, x.2.2.2.2.2.2.1, x.2.2.2.2.2.2.2.1, x.2.2.2.2.2.2.2.2.1, x.2.2.2.2.2.2.2.2.2.1, x.2.2.2.2.2.2.2.2.2.2.1, x.2.2.2.2.2.2.2.2.2.2.2.1, x.2.2.2.2.2.2.2.2.2.2.2.2.1, x.2.2.2.2.2.2.2.2.2.2.2.2.2.1, x.2.2.2.2.2.2.2.2.2.2.2.2.2.2))
      else
       if a0 = (5 : Int32) then
        (x.2.2.2.2.2.2.2.2.1.2.2.1, ((0 : Int32), x.2.1, x.2.2.1, x.2.2.2.1, x.2.2.2.2.1, x.2.2.2.2.2.1, x.2.2.2.2.2.2.1, x.2.2.2.2.2.2.2.1, x.2.2.2.2.2.2.2.2.1, x.2.2.2.2.2.2.2.2.2.1, x.2.2.2.2.2.2.2.2.2.2.1, x.2.2.2.2.2.2.2.2.2.2.2.1, x.2.2.2.2.2.2.2.2.2.2.2.2.1, x.2.2.2.2.2.2.2.2.2.2.2.2.2.1, x.2.2.2.2.2.2.2.2.2.2.2.2.2.2))
       else
        ((-1 : Int32), ((0 : Int32), x.2.1, x.2.2.1, x.2.2.2.1, x.2.2.2.2.1, x.2.2.2.2.2.1, x.2.2.2.2.2.2.1, x.2.2.2.2.2.2.2.1, x.2.2.2.2.2.2.2.2.1, x.2.2.2.2.2.2.2.2.2.1, x.2.2.2.2.2.2.2.2.2.2.1, x.2.2.2.2.2.2.2.2.2.2.2.1, x.2.2.2.2.2.2.2.2.2.2.2.2.1, x.2.2.2.2.2.2.2.2.2.2.2.2.2.1, x.2.2.2.2.2.2.2.2.2.2.2.2.2.2))
abbrev ivX5_stateP (z : Int32 × TM) : Prop := iM z.2
set_option maxRecDepth 100000 in
set_option maxHeartbeats 4000000 in
theorem ivX5_state (x : TM) (a0 : Int32) (hI : iM x) : ivX5_stateP (fnX5_state x a0) := by
  unfold fnX5_state
  try dsimp only
  refine iteI (fun h1 => ?_) (fun h1 => ?_)
  · refine iteI (fun h2 => ?_) (fun h2 => ?_)
    · exact ⟨hI.1, hI.2.1, hI.2.2.1, hI.2.2.2.1, hI.2.2.2.2.1, hI.2.2.2.2.2.1, hI.2.2.2.2.2.2.1, hI.2.2.2.2.2.2.2⟩
    · exact ⟨hI.1, hI.2.1, hI.2.2.1, hI.2.2.2.1, hI.2.2.2.2.1, hI.2.2.2.2.2.1, hI.2.2.2.2.2.2.1, hI.2.2.2.2.2.2.2⟩
  · refine iteI (fun h3 => ?_) (fun h3 => ?_)
    · refine iteI (fun h4 => ?_) (fun h4 => ?_)
      · exact ⟨hI.1, hI.2.1, hI.2.2.1, hI.2.2.2.1, hI.2.2.2.2.1, hI.2.2.2.2.2.1, hI.2.2.2.2.2.2.1, hI.2.2.2.2.2.2.2⟩
      · exact ⟨hI.1, hI.2.1, hI.2.2.1, hI.2.2.2.1, hI.2.2.2.2.1, hI.2.2.2.2.2.1, hI.2.2.2.2.2.2.1, hI.2.2.2.2.2.2.2⟩
    · refine iteI (fun h5 => ?_) (fun h5 => ?_)
      · exact ⟨hI.1, hI.2.1, hI.2.2.1, hI.2.2.2.1, hI.2.2.2.2.1, hI.2.2.2.2.2.1, hI.2.2.2.2.2.2.1, hI.2.2.2.2.2.2.2⟩
      · refine iteI (fun h6 => ?_) (fun h6 => ?_)
        · exact ⟨hI.1, hI.2.1, hI.2.2.1, hI.2.2.2.1, hI.2.2.2.2.1, hI.2.2.2.2.2.1, hI.2.2.2.2.2.2.1, hI.2.2.2.2.2.2.2⟩
        · refine iteI (fun h7 => ?_) (fun h7 => ?_)
          · exact ⟨hI.1, hI.2.1, hI.2.2.1, hI.2.2.2.1, hI.2.2.2.2.1, hI.2.2.2.2.2.1, hI.2.2.2.2.2.2.1, hI.2.2.2.2.2.2.2⟩
          · refine iteI (fun h8 => ?_) (fun h8 => ?_)
            · exact ⟨hI.1, hI.2.1, hI.2.2.1, hI.2.2.2.1, hI.2.2.2.2.1, hI.2.2.2.2.2.1, hI.2.2.2.2.2.2.1, hI.2.2.2.2.2.2.2⟩
            · exact ⟨hI.1, hI.2.1, hI.2.2.1, hI.2.2.2.1, hI.2.2.2.2.1, hI.2.2.2.2.2.1, hI.2.2.2.2.2.2.1, hI.2.2.2.2.2.2.2⟩
set_option maxRecDepth 100000 in
set_option maxHeartbeats 4000000 in
theorem okX5_state (l : Launch) (D : va_G) (cI cJ cP : ClassId) (ad : Nat → Nat) (sz : Nat) (x : TM) (a0 : Int32) (hI : iM x) : Met l yX5_state (Cond.code yX5_state cX5_state 2 (some .int) :: gG) { frames := 0, cells := 0, slots := 0, locals := 0 } (va_Pc [.ref (ad 0), .int a0] (PRE D (tz cI cJ cP) sz (wM cI cJ ad x))) (va_Qi (fun (r : Int32) (u : TM) => (r, u) = fnX5_state x a0) (AT D (tz cI cJ cP) (va_A (wM cI cJ ad x) sz) (fun (u : TM) => (wM cI cJ ad u))) (va_A (wM cI cJ ad x) sz)) 0 0 (va_A (wM cI cJ ad x) sz) := by
  refine mo (QA := fun A => va_Qi (fun (r : Int32) (u : TM) => (r, u) = fnX5_state x a0) (AT D (tz cI cJ cP) A (fun (u : TM) => (wM cI cJ ad u))) A) (by decide) (Nat.le_of_ble_eq_true rfl) ?_
  intro p e s m below meth c A ls H hx hb hr hml hown hG hlocks hnm hA hS hP hK hD hl hN
  have hown : s.vm.findClass RX5 = some m.cls := hown
  have hl : lv_has ls 2 [(0, .ref (ad 0)), (1, .int a0)] := hl
  refine lv_aload_n hx hb dX5_state_0 rfl (lv_at hl 0 rfl) ?_
  refine lv_iconst (v := 0) hx hb dX5_state_1 (by decide) ?_
  refine pu (D := D) (ci := 5) (v := .int ((0 : Int32))) (ty := .int) (W' := (wM cI cJ ad ((0 : Int32), x.2.1, x.2.2.1, x.2.2.2.1, x.2.2.2.2.1, x.2.2.2.2.2.1, x.2.2.2.2.2.2.1, x.2.2.2.2.2.2.2.1, x.2.2.2.2.2.2.2.2.1, x.2.2.2.2.2.2.2.2.2.1, x.2.2.2.2.2.2.2.2.2.2.1, x.2.2.2.2.2.2.2.2.2.2.2.1, x.2.2.2.2.2.2.2.2.2.2.2.2.1, x.2.2.2.2.2.2.2.2.2.2.2.2.2.1, x.2.2.2.2.2.2.2.2.2.2.2.2.2.2))) hx hb hG inX5 tyX5 tyokX5 nmX5 hown hK hP hD hS 0 rfl rfl 0 (by decide) (hG _ kw241) (fun _ h9 => h9) rfl (by decide +kernel) rfl rfl (Nat.le_of_ble_eq_true rfl) dX5_state_2 rfl (fun H locs hP hD hS => ?_)
  refine lv_iload_n hx hb dX5_state_5 rfl (lv_at hl 1 rfl) ?_
  by_cases h1 : a0 = (0 : Int32)
  · refine lv_tableIn (off := 38) (tgt := 44) hx hb dX5_state_6 (by rw [h1]; decide) (by rw [h1]; decide) (by rw [h1]; decide) (by decide) ?_
    refine lv_aload_n hx hb dX5_state_44 rfl (lv_at hl 0 rfl) ?_
    refine va_get (D := D) (ci := 5) (v := .int (x.2.2.2.2.2.2.2.2.1.2.1)) hx hb hG inX5 hown hK hP 0 rfl rfl 19 (by decide) (hG _ kw315) (fun _ h9 => h9) rfl dX5_state_45 ?_
    refine lv_if_eq (tgt := 55) hx hb dX5_state_48 (by decide) (fun h2 => ?_) (fun h2 => ?_)
    · refine lv_iconst (v := 0) hx hb dX5_state_55 (by decide) ?_
      exact reti (u := ((0 : Int32), x.2.1, x.2.2.1, x.2.2.2.1, x.2.2.2.2.1, x.2.2.2.2.2.1, x.2.2.2.2.2.2.1, x.2.2.2.2.2.2.2.1, x.2.2.2.2.2.2.2.2.1, x.2.2.2.2.2.2.2.2.2.1, x.2.2.2.2.2.2.2.2.2.2.1, x.2.2.2.2.2.2.2.2.2.2.2.1, x.2.2.2.2.2.2.2.2.2.2.2.2.1, x.2.2.2.2.2.2.2.2.2.2.2.2.2.1, x.2.2.2.2.2.2.2.2.2.2.2.2.2.2)) hx hb hr hlocks hK hP hD hS dX5_state_56 (by unfold fnX5_state; (try dsimp only); rw [if_pos h1]; rw [if_pos h2]; (try exact rfl))
    · refine lv_iconst (v := 1) hx hb dX5_state_51 (by decide) ?_
      refine lv_goto (tgt := 56) hx hb dX5_state_52 (by decide) ?_
      exact reti (u := ((0 : Int32), x.2.1, x.2.2.1, x.2.2.2.1, x.2.2.2.2.1, x.2.2.2.2.2.1, x.2.2.2.2.2.2.1, x.2.2.2.2.2.2.2.1, x.2.2.2.2.2.2.2.2.1, x.2.2.2.2.2.2.2.2.2.1, x.2.2.2.2.2.2.2.2.2.2.1, x.2.2.2.2.2.2.2.2.2.2.2.1, x.2.2.2.2.2.2.2.2.2.2.2.2.1, x.2.2.2.2.2.2.2.2.2.2.2.2.2.1, x.2.2.2.2.2.2.2.2.2.2.2.2.2.2)) hx hb hr hlocks hK hP hD hS dX5_state_56 (by unfold fnX5_state; (try dsimp only); rw [if_pos h1]; rw [if_neg h2]; (try exact rfl))
  by_cases h3 : a0 = (1 : Int32)
  · refine lv_tableIn (off := 51) (tgt := 57) hx hb dX5_state_6 (by rw [h3]; decide) (by rw [h3]; decide) (by rw [h3]; decide) (by decide) ?_
    refine lv_aload_n hx hb dX5_state_57 rfl (lv_at hl 0 rfl) ?_
    refine va_get (D := D) (ci := 5) (v := .int (x.2.2.2.2.2.2.2.2.1.1)) hx hb hG inX5 hown hK hP 0 rfl rfl 18 (by decide) (hG _ kw314) (fun _ h9 => h9) rfl dX5_state_58 ?_
    refine lv_if_eq (tgt := 68) hx hb dX5_state_61 (by decide) (fun h4 => ?_) (fun h4 => ?_)
    · refine lv_iconst (v := 0) hx hb dX5_state_68 (by decide) ?_
      exact reti (u := ((0 : Int32), x.2.1, x.2.2.1, x.2.2.2.1, x.2.2.2.2.1, x.2.2.2.2.2.1, x.2.2.2.2.2.2.1, x.2.2.2.2.2.2.2.1, x.2.2.2.2.2.2.2.2.1, x.2.2.2.2.2.2.2.2.2.1, x.2.2.2.2.2.2.2.2.2.2.1, x.2.2.2.2.2.2.2.2.2.2.2.1, x.2.2.2.2.2.2.2.2.2.2.2.2.1, x.2.2.2.2.2.2.2.2.2.2.2.2.2.1, x.2.2.2.2.2.2.2.2.2.2.2.2.2.2)) hx hb hr hlocks hK hP hD hS dX5_state_69 (by unfold fnX5_state; (try dsimp only); rw [if_neg h1]; rw [if_pos h3]; rw [if_pos h4]; (try exact rfl))
    · refine lv_iconst (v := 1) hx hb dX5_state_64 (by decide) ?_
      refine lv_goto (tgt := 69) hx hb dX5_state_65 (by decide) ?_
      exact reti (u := ((0 : Int32), x.2.1, x.2.2.1, x.2.2.2.1, x.2.2.2.2.1, x.2.2.2.2.2.1, x.2.2.2.2.2.2.1, x.2.2.2.2.2.2.2.1, x.2.2.2.2.2.2.2.2.1, x.2.2.2.2.2.2.2.2.2.1, x.2.2.2.2.2.2.2.2.2.2.1, x.2.2.2.2.2.2.2.2.2.2.2.1, x.2.2.2.2.2.2.2.2.2.2.2.2.1, x.2.2.2.2.2.2.2.2.2.2.2.2.2.1, x.2.2.2.2.2.2.2.2.2.2.2.2.2.2)) hx hb hr hlocks hK hP hD hS dX5_state_69 (by unfold fnX5_state; (try dsimp only); rw [if_neg h1]; rw [if_pos h3]; rw [if_neg h4]; (try exact rfl))
  by_cases h5 : a0 = (2 : Int32)
  · refine lv_tableIn (off := 64) (tgt := 70) hx hb dX5_state_6 (by rw [h5]; decide) (by rw [h5]; decide) (by rw [h5]; decide) (by decide) ?_
    refine lv_aload_n hx hb dX5_state_70 rfl (lv_at hl 0 rfl) ?_
    refine va_get (D := D) (ci := 5) (v := .int (x.2.2.2.2.2.2.2.2.2.2.1.1)) hx hb hG inX5 hown hK hP 0 rfl rfl 25 (by decide) (hG _ kw340) (fun _ h9 => h9) rfl dX5_state_71 ?_
    exact reti (u := ((0 : Int32), x.2.1, x.2.2.1, x.2.2.2.1, x.2.2.2.2.1, x.2.2.2.2.2.1, x.2.2.2.2.2.2.1, x.2.2.2.2.2.2.2.1, x.2.2.2.2.2.2.2.2.1, x.2.2.2.2.2.2.2.2.2.1, x.2.2.2.2.2.2.2.2.2.2.1, x.2.2.2.2.2.2.2.2.2.2.2.1, x.2.2.2.2.2.2.2.2.2.2.2.2.1, x.2.2.2.2.2.2.2.2.2.2.2.2.2.1, x.2.2.2.2.2.2.2.2.2.2.2.2.2.2)) hx hb hr hlocks hK hP hD hS dX5_state_74 (by unfold fnX5_state; (try dsimp only); rw [if_neg h1]; rw [if_neg h3]; rw [if_pos h5]; (try exact rfl))
  by_cases h6 : a0 = (3 : Int32)
  · refine lv_tableIn (off := 69) (tgt := 75) hx hb dX5_state_6 (by rw [h6]; decide) (by rw [h6]; decide) (by rw [h6]; decide) (by decide) ?_
    refine lv_aload_n hx hb dX5_state_75 rfl (lv_at hl 0 rfl) ?_
    refine va_get (D := D) (ci := 5) (v := .int (x.2.2.2.2.2.2.2.2.2.2.1.2.1)) hx hb hG inX5 hown hK hP 0 rfl rfl 26 (by decide) (hG _ kw341) (fun _ h9 => h9) rfl dX5_state_76 ?_
    exact reti (u := ((0 : Int32), x.2.1, x.2.2.1, x.2.2.2.1, x.2.2.2.2.1, x.2.2.2.2.2.1, x.2.2.2.2.2.2.1, x.2.2.2.2.2.2.2.1, x.2.2.2.2.2.2.2.2.1, x.2.2.2.2.2.2.2.2.2.1, x.2.2.2.2.2.2.2.2.2.2.1, x.2.2.2.2.2.2.2.2.2.2.2.1, x.2.2.2.2.2.2.2.2.2.2.2.2.1, x.2.2.2.2.2.2.2.2.2.2.2.2.2.1, x.2.2.2.2.2.2.2.2.2.2.2.2.2.2)) hx hb hr hlocks hK hP hD hS dX5_state_79 (by unfold fnX5_state; (try dsimp only); rw [if_neg h1]; rw [if_neg h3]; rw [if_neg h5]; rw [if_pos h6]; (try exact rfl))
  by_cases h7 : a0 = (4 : Int32)
  · refine lv_tableIn (off := 74) (tgt := 80) hx hb dX5_state_6 (by rw [h7]; decide) (by rw [h7]; decide) (by rw [h7]; decide) (by decide) ?_
    refine lv_aload_n hx hb dX5_state_80 rfl (lv_at hl 0 rfl) ?_
    refine va_get (D := D) (ci := 5) (v := .int (x.2.2.2.2.2.2.2.2.2.2.1.2.2)) hx hb hG inX5 hown hK hP 0 rfl rfl 27 (by decide) (hG _ kw342) (fun _ h9 => h9) rfl dX5_state_81 ?_
    exact reti (u := ((0 : Int32), x.2.1, x.2.2.1, x.2.2.2.1, x.2.2.2.2.1, x.2.2.2.2.2.1, x.2.2.2.2.2.2.1, x.2.2.2.2.2.2.2.1, x.2.2.2.2.2.2.2.2.1, x.2.2.2.2.2.2.2.2.2.1, x.2.2.2.2.2.2.2.2.2.2.1, x.2.2.2.2.2.2.2.2.2.2.2.1, x.2.2.2.2.2.2.2.2.2.2.2.2.1, x.2.2.2.2.2.2.2.2.2.2.2.2.2.1, x.2.2.2.2.2.2.2.2.2.2.2.2.2.2)) hx hb hr hlocks hK hP hD hS dX5_state_84 (by unfold fnX5_state; (try dsimp only); rw [if_neg h1]; rw [if_neg h3]; rw [if_neg h5]; rw [if_neg h6]; rw [if_pos h7]; (try exact rfl))
  by_cases h8 : a0 = (5 : Int32)
  · refine lv_tableIn (off := 79) (tgt := 85) hx hb dX5_state_6 (by rw [h8]; decide) (by rw [h8]; decide) (by rw [h8]; decide) (by decide) ?_
    refine lv_aload_n hx hb dX5_state_85 rfl (lv_at hl 0 rfl) ?_
    refine va_get (D := D) (ci := 5) (v := .int (x.2.2.2.2.2.2.2.2.1.2.2.1)) hx hb hG inX5 hown hK hP 0 rfl rfl 20 (by decide) (hG _ kw348) (fun _ h9 => h9) rfl dX5_state_86 ?_
    exact reti (u := ((0 : Int32), x.2.1, x.2.2.1, x.2.2.2.1, x.2.2.2.2.1, x.2.2.2.2.2.1, x.2.2.2.2.2.2.1, x.2.2.2.2.2.2.2.1, x.2.2.2.2.2.2.2.2.1, x.2.2.2.2.2.2.2.2.2.1, x.2.2.2.2.2.2.2.2.2.2.1, x.2.2.2.2.2.2.2.2.2.2.2.1, x.2.2.2.2.2.2.2.2.2.2.2.2.1, x.2.2.2.2.2.2.2.2.2.2.2.2.2.1, x.2.2.2.2.2.2.2.2.2.2.2.2.2.2)) hx hb hr hlocks hK hP hD hS dX5_state_89 (by unfold fnX5_state; (try dsimp only); rw [if_neg h1]; rw [if_neg h3]; rw [if_neg h5]; rw [if_neg h6]; rw [if_neg h7]; rw [if_pos h8]; (try exact rfl))
  refine lv_tableOut (tgt := 90) hx hb dX5_state_6 (by have a0 := neI (n := 0) h1 (by decide); have a1 := neI (n := 1) h3 (by decide); have a2 := neI (n := 2) h5 (by decide); have a3 := neI (n := 3) h6 (by decide); have a4 := neI (n := 4) h7 (by decide); have a5 := neI (n := 5) h8 (by decide); omega) (by decide) ?_
  refine lv_iconst (v := (-1)) hx hb dX5_state_90 (by decide) ?_
  exact reti (u := ((0 : Int32), x.2.1, x.2.2.1, x.2.2.2.1, x.2.2.2.2.1, x.2.2.2.2.2.1, x.2.2.2.2.2.2.1, x.2.2.2.2.2.2.2.1, x.2.2.2.2.2.2.2.2.1, x.2.2.2.2.2.2.2.2.2.1, x.2.2.2.2.2.2.2.2.2.2.1, x.2.2.2.2.2.2.2.2.2.2.2.1, x.2.2.2.2.2.2.2.2.2.2.2.2.1, x.2.2.2.2.2.2.2.2.2.2.2.2.2.1, x.2.2.2.2.2.2.2.2.2.2.2.2.2.2)) hx hb hr hlocks hK hP hD hS dX5_state_91 (by unfold fnX5_state; (try dsimp only); rw [if_neg h1]; rw [if_neg h3]; rw [if_neg h5]; rw [if_neg h6]; rw [if_neg h7]; rw [if_neg h8]; (try exact rfl))
def fnX5_saved (x : TM)  : Int64 × TM :=
  if x.2.2.2.2.2.2.2.2.1.2.2.2 = (0 : Int32) then
   ((0 : Int64), ((0 : Int32), x.2.1, x.2.2.1, x.2.2.2.1, x.2.2.2.2.1, x.2.2.2.2.2.1, x.2.2.2.2.2.2.1, x.2.2.2.2.2.2.2.1, x.2.2.2.2.2.2.2.2.1, x.2.2.2.2.2.2.2.2.2.1, x.2.2.2.2.2.2.2.2.2.2.1, x.2.2.2.2.2.2.2.2.2.2.2.1, x.2.2.2.2.2.2.2.2.2.2.2.2.1, x.2.2.2.2.2.2.2.2.2.2.2.2.2.1, x.2.2.2.2.2.2.2.2.2.2.2.2.2.2))
  else
   let p2 := fnX5_pointer x.2.2.2.2.2.2.2.2.2.1.1 x.2.2.2.2.2.2.2.2.2.1.2.1 x.2.2.2.2.2.2.2.2.2.1.2.2
   (p2, ((0 : Int32), x.2.1, x.2.2.1, x.2.2.2.1, x.2.2.2.2.1, x.2.2.2.2.2.1, x.2.2.2.2.2.2.1, x.2.2.2.2.2.2.2.1, x.2.2.2.2.2.2.2.2.1, x.2.2.2.2.2.2.2.2.2.1, x.2.2.2.2.2.2.2.2.2.2.1, x.2.2.2.2.2.2.2.2.2.2.2.1, x.2.2.2.2.2.2.2.2.2.2.2.2.1, x.2.2.2.2.2.2.2.2.2.2.2.2.2.1, x.2.2.2.2.2.2.2.2.2.2.2.2.2.2))
abbrev ivX5_savedP (z : Int64 × TM) : Prop := iM z.2
set_option maxRecDepth 100000 in
set_option maxHeartbeats 4000000 in
theorem ivX5_saved (x : TM)  (hI : iM x) : ivX5_savedP (fnX5_saved x) := by
  unfold fnX5_saved
  try dsimp only
  refine iteI (fun h1 => ?_) (fun h1 => ?_)
  · exact ⟨hI.1, hI.2.1, hI.2.2.1, hI.2.2.2.1, hI.2.2.2.2.1, hI.2.2.2.2.2.1, hI.2.2.2.2.2.2.1, hI.2.2.2.2.2.2.2⟩
  · generalize fnX5_pointer x.2.2.2.2.2.2.2.2.2.1.1 x.2.2.2.2.2.2.2.2.2.1.2.1 x.2.2.2.2.2.2.2.2.2.1.2.2 = p2
    exact ⟨hI.1, hI.2.1, hI.2.2.1, hI.2.2.2.1, hI.2.2.2.2.1, hI.2.2.2.2.2.1, hI.2.2.2.2.2.2.1, hI.2.2.2.2.2.2.2⟩
set_option maxRecDepth 100000 in
set_option maxHeartbeats 4000000 in
theorem okX5_saved (l : Launch) (D : va_G) (cI cJ cP : ClassId) (ad : Nat → Nat) (sz : Nat) (x : TM)  (hI : iM x) : Met l yX5_saved (Cond.code yX5_saved cX5_saved 1 (some .long) :: gG) { frames := 1, cells := 0, slots := 0, locals := 22 } (va_Pc [.ref (ad 0)] (PRE D (tz cI cJ cP) sz (wM cI cJ ad x))) (va_Ql (fun (r : Int64) (u : TM) => (r, u) = fnX5_saved x) (AT D (tz cI cJ cP) (va_A (wM cI cJ ad x) sz) (fun (u : TM) => (wM cI cJ ad u))) (va_A (wM cI cJ ad x) sz)) 0 0 (va_A (wM cI cJ ad x) sz) := by
  refine mo (QA := fun A => va_Ql (fun (r : Int64) (u : TM) => (r, u) = fnX5_saved x) (AT D (tz cI cJ cP) A (fun (u : TM) => (wM cI cJ ad u))) A) (by decide) (Nat.le_of_ble_eq_true rfl) ?_
  intro p e s m below meth c A ls H hx hb hr hml hown hG hlocks hnm hA hS hP hK hD hl hN
  have hown : s.vm.findClass RX5 = some m.cls := hown
  have hl : lv_has ls 1 [(0, .ref (ad 0))] := hl
  refine lv_aload_n hx hb dX5_saved_0 rfl (lv_at hl 0 rfl) ?_
  refine lv_iconst (v := 0) hx hb dX5_saved_1 (by decide) ?_
  refine pu (D := D) (ci := 5) (v := .int ((0 : Int32))) (ty := .int) (W' := (wM cI cJ ad ((0 : Int32), x.2.1, x.2.2.1, x.2.2.2.1, x.2.2.2.2.1, x.2.2.2.2.2.1, x.2.2.2.2.2.2.1, x.2.2.2.2.2.2.2.1, x.2.2.2.2.2.2.2.2.1, x.2.2.2.2.2.2.2.2.2.1, x.2.2.2.2.2.2.2.2.2.2.1, x.2.2.2.2.2.2.2.2.2.2.2.1, x.2.2.2.2.2.2.2.2.2.2.2.2.1, x.2.2.2.2.2.2.2.2.2.2.2.2.2.1, x.2.2.2.2.2.2.2.2.2.2.2.2.2.2))) hx hb hG inX5 tyX5 tyokX5 nmX5 hown hK hP hD hS 0 rfl rfl 0 (by decide) (hG _ kw241) (fun _ h9 => h9) rfl (by decide +kernel) rfl rfl (Nat.le_of_ble_eq_true rfl) dX5_saved_2 rfl (fun H locs hP hD hS => ?_)
  refine lv_aload_n hx hb dX5_saved_5 rfl (lv_at hl 0 rfl) ?_
  refine va_get (D := D) (ci := 5) (v := .int (x.2.2.2.2.2.2.2.2.1.2.2.2)) hx hb hG inX5 hown hK hP 0 rfl rfl 21 (by decide) (hG _ kw343) (fun _ h9 => h9) rfl dX5_saved_6 ?_
  refine lv_if_eq (tgt := 30) hx hb dX5_saved_9 (by decide) (fun h1 => ?_) (fun h1 => ?_)
  · refine lv_lconst (v := 0) hx hb dX5_saved_30 (by decide) ?_
    exact retl (u := ((0 : Int32), x.2.1, x.2.2.1, x.2.2.2.1, x.2.2.2.2.1, x.2.2.2.2.2.1, x.2.2.2.2.2.2.1, x.2.2.2.2.2.2.2.1, x.2.2.2.2.2.2.2.2.1, x.2.2.2.2.2.2.2.2.2.1, x.2.2.2.2.2.2.2.2.2.2.1, x.2.2.2.2.2.2.2.2.2.2.2.1, x.2.2.2.2.2.2.2.2.2.2.2.2.1, x.2.2.2.2.2.2.2.2.2.2.2.2.2.1, x.2.2.2.2.2.2.2.2.2.2.2.2.2.2)) hx hb hr hlocks hK hP hD hS dX5_saved_31 (by unfold fnX5_saved; (try dsimp only); rw [if_pos h1]; (try exact rfl))
  · refine lv_aload_n hx hb dX5_saved_12 rfl (lv_at hl 0 rfl) ?_
    refine va_get (D := D) (ci := 5) (v := .int (x.2.2.2.2.2.2.2.2.2.1.1)) hx hb hG inX5 hown hK hP 0 rfl rfl 22 (by decide) (hG _ kw311) (fun _ h9 => h9) rfl dX5_saved_13 ?_
    refine lv_aload_n hx hb dX5_saved_16 rfl (lv_at hl 0 rfl) ?_
    refine va_get (D := D) (ci := 5) (v := .int (x.2.2.2.2.2.2.2.2.2.1.2.1)) hx hb hG inX5 hown hK hP 0 rfl rfl 23 (by decide) (hG _ kw312) (fun _ h9 => h9) rfl dX5_saved_17 ?_
    refine lv_aload_n hx hb dX5_saved_20 rfl (lv_at hl 0 rfl) ?_
    refine va_get (D := D) (ci := 5) (v := .int (x.2.2.2.2.2.2.2.2.2.1.2.2)) hx hb hG inX5 hown hK hP 0 rfl rfl 24 (by decide) (hG _ kw313) (fun _ h9 => h9) rfl dX5_saved_21 ?_
    refine k0Sl (As := [.int (x.2.2.2.2.2.2.2.2.2.1.1), .int (x.2.2.2.2.2.2.2.2.2.1.2.1), .int (x.2.2.2.2.2.2.2.2.2.1.2.2)]) (rest := []) hx hb hml hown hG hl (okX5_pointer l D cI cJ cP  H.size x.2.2.2.2.2.2.2.2.2.1.1 x.2.2.2.2.2.2.2.2.2.1.2.1 x.2.2.2.2.2.2.2.2.2.1.2.2 ) (cS 3 hG kw324 kw325 kw326 kw238 hdX5_pointer ⟨by decide, by decide⟩) hK hP hD hS hA hN rfl rfl (Nat.le_of_ble_eq_true rfl) dX5_saved_24 ⟨Nat.zero_le _, Nat.zero_le _⟩ (fun r2 q2 H locs hP hD hS => ?_)
    refine lv_goto (tgt := 31) hx hb dX5_saved_27 (by decide) ?_
    exact retl (u := ((0 : Int32), x.2.1, x.2.2.1, x.2.2.2.1, x.2.2.2.2.1, x.2.2.2.2.2.1, x.2.2.2.2.2.2.1, x.2.2.2.2.2.2.2.1, x.2.2.2.2.2.2.2.2.1, x.2.2.2.2.2.2.2.2.2.1, x.2.2.2.2.2.2.2.2.2.2.1, x.2.2.2.2.2.2.2.2.2.2.2.1, x.2.2.2.2.2.2.2.2.2.2.2.2.1, x.2.2.2.2.2.2.2.2.2.2.2.2.2.1, x.2.2.2.2.2.2.2.2.2.2.2.2.2.2)) hx hb hr hlocks hK hP hD hS dX5_saved_31 (by unfold fnX5_saved; (try dsimp only); rw [if_neg h1]; rw [← q2]; (try dsimp only); (try exact rfl))
def fnX5_copy (x : TM) (a0 : Int32) (a1 : Int32) : Int32 × TM :=
  if a0 < (0 : Int32) then
   ((-1 : Int32), ((0 : Int32), x.2.1, x.2.2.1, x.2.2.2.1, x.2.2.2.2.1, x.2.2.2.2.2.1, x.2.2.2.2.2.2.1, x.2.2.2.2.2.2.2.1, x.2.2.2.2.2.2.2.2.1, x.2.2.2.2.2.2.2.2.2.1, x.2.2.2.2.2.2.2.2.2.2.1, x.2.2.2.2.2.2.2.2.2.2.2.1, x.2.2.2.2.2.2.2.2.2.2.2.2.1, x.2.2.2.2.2.2.2.2.2.2.2.2.2.1, x.2.2.2.2.2.2.2.2.2.2.2.2.2.2))
  else
   if a1 = (0 : Int32) then
    if x.2.2.1.1 ≤ a0 then
     ((-1 : Int32), ((0 : Int32), x.2.1, x.2.2.1, x.2.2.2.1, x.2.2.2.2.1, x.2.2.2.2.2.1, x.2.2.2.2.2.2.1, x.2.2.2.2.2.2.2.1, x.2.2.2.2.2.2.2.2.1, x.2.2.2.2.2.2.2.2.2.1, x.2.2.2.2.2.2.2.2.2.2.1, x.2.2.2.2.2.2.2.2.2.2.2.1, x.2.2.2.2.2.2.2.2.2.2.2.2.1, x.2.2.2.2.2.2.2.2.2.2.2.2.2.1, x.2.2.2.2.2.2.2.2.2.2.2.2.2.2))
    else
     if a1 = (1 : Int32) then
      if a0 < x.2.2.2.1.1 then
       ((x.2.2.1.2.1 (a0).toNatClampNeg), ((0 : Int32), x.2.1, x.2.2.1, x.2.2.2.1, x.2.2.2.2.1, x.2.2.2.2.2.1, x.2.2.2.2.2.2.1, x.2.2.2.2.2.2.2.1, x.2.2.2.2.2.2.2.2.1, x.2.2.2.2.2.2.2.2.2.1, x.2.2.2.2.2.2.2.2.2.2.1, x.2.2.2.2.2.2.2.2.2.2.2.1, x.2.2.2.2.2.2.2.2.2.2.2.2.1, x.2.2.2.2.2.2.2.2.2.2.2.2.2.1, x.2.2.2.2.2.2.2.2.2.2.2.2.2.2))
      else
       ((-1 : Int32), ((0 : Int32), x.2.1, x.2.2.1, x.2.2.2.1, x.2.2.2.2.1, x.2.2.2.2.2.1, x.2.2.2.2.2.2.1, x.2.2.2.2.2.2.2.1, x.2.2.2.2.2.2.2.2.1, x.2.2.2.2.2.2.2.2.2.1, x.2.2.2.2.2.2.2.2.2.2.1, x.2.2.2.2.2.2.2.2.2.2.2.1, x.2.2.2.2.2.2.2.2.2.2.2.2.1, x.2.2.2.2.2.2.2.2.2.2.2.2.2.1, x.2.2.2.2.2.2.2.2.2.2.2.2.2.2))
     else
      ((x.2.2.1.2.1 (a0).toNatClampNeg), ((0 : Int32), x.2.1, x.2.2.1, x.2.2.2.1, x.2.2.2.2.1, x.2.2.2.2.2.1, x.2.2.2.2.2.2.1, x.2.2.2.2.2.2.2.1, x.2.2.2.2.2.2.2.2.1, x.2.2.2.2.2.2.2.2.2.1, x.2.2.2.2.2.2.2.2.2.2.1, x.2.2.2.2.2.2.2.2.2.2.2.1, x.2.2.2.2.2.2.2.2.2.2.2.2.1, x.2.2.2.2.2.2.2.2.2.2.2.2.2.1, x.2.2.2.2.2.2.2.2.2.2.2.2.2.2))
   else
    if a1 = (1 : Int32) then
     if a0 < x.2.2.2.1.1 then
      ((x.2.2.2.1.2.1 (a0).toNatClampNeg), ((0 : Int32), x.2.1, x.2.2.1, x.2.2.2.1, x.2.2.2.2.1, x.2.2.2.2.2.1, x.2.2.2.2.2.2.1, x.2.2.2.2.2.2.2.1, x.2.2.2.2.2.2.2.2.1, x.2.2.2.2.2.2.2.2.2.1, x.2.2.2.2.2.2.2.2.2.2.1, x.2.2.2.2.2.2.2.2.2.2.2.1, x.2.2.2.2.2.2.2.2.2.2.2.2.1, x.2.2.2.2.2.2.2.2.2.2.2.2.2.1, x.2.2.2.2.2.2.2.2.2.2.2.2.2.2))
     else
      ((-1 : Int32), ((0 : Int32), x.2.1, x.2.2.1, x.2.2.2.1, x.2.2.2.2.1, x.2.2.2.2.2.1, x.2.2.2.2.2.2.1, x.2.2.2.2.2.2.2.1, x.2.2.2.2.2.2.2.2.1, x.2.2.2.2.2.2.2.2.2.1, x.2.2.2.2.2.2.2.2.2.2.1, x.2.2.2.2.2.2.2.2.2.2.2.1, x.2.2.2.2.2.2.2.2.2.2.2.2.1, x.2.2.2.2.2.2.2.2.2.2.2.2.2.1, x.2.2.2.2.2.2.2.2.2.2.2.2.2.2))
    else
     ((-1 : Int32), ((0 : Int32), x.2.1, x.2.2.1, x.2.2.2.1, x.2.2.2.2.1, x.2.2.2.2.2.1, x.2.2.2.2.2.2.1, x.2.2.2.2.2.2.2.1, x.2.2.2.2.2.2.2.2.1, x.2.2.2.2.2.2.2.2.2.1, x.2.2.2.2.2.2.2.2.2.2.1, x.2.2.2.2.2.2.2.2.2.2.2.1, x.2.2.2.2.2.2.2.2.2.2.2.2.1, x.2.2.2.2.2.2.2.2.2.2.2.2.2.1, x.2.2.2.2.2.2.2.2.2.2.2.2.2.2))
abbrev ivX5_copyP (z : Int32 × TM) : Prop := iM z.2
set_option maxRecDepth 100000 in
set_option maxHeartbeats 4000000 in
theorem ivX5_copy (x : TM) (a0 : Int32) (a1 : Int32) (hI : iM x) : ivX5_copyP (fnX5_copy x a0 a1) := by
  unfold fnX5_copy
  try dsimp only
  refine iteI (fun h1 => ?_) (fun h1 => ?_)
  · exact ⟨hI.1, hI.2.1, hI.2.2.1, hI.2.2.2.1, hI.2.2.2.2.1, hI.2.2.2.2.2.1, hI.2.2.2.2.2.2.1, hI.2.2.2.2.2.2.2⟩
  · refine iteI (fun h2 => ?_) (fun h2 => ?_)
    · refine iteI (fun h5 => ?_) (fun h5 => ?_)
      · exact ⟨hI.1, hI.2.1, hI.2.2.1, hI.2.2.2.1, hI.2.2.2.2.1, hI.2.2.2.2.2.1, hI.2.2.2.2.2.2.1, hI.2.2.2.2.2.2.2⟩
      · refine iteI (fun h6 => ?_) (fun h6 => ?_)
        · refine iteI (fun h7 => ?_) (fun h7 => ?_)
          · exact ⟨hI.1, hI.2.1, hI.2.2.1, hI.2.2.2.1, hI.2.2.2.2.1, hI.2.2.2.2.2.1, hI.2.2.2.2.2.2.1, hI.2.2.2.2.2.2.2⟩
          · exact ⟨hI.1, hI.2.1, hI.2.2.1, hI.2.2.2.1, hI.2.2.2.2.1, hI.2.2.2.2.2.1, hI.2.2.2.2.2.2.1, hI.2.2.2.2.2.2.2⟩
        · exact ⟨hI.1, hI.2.1, hI.2.2.1, hI.2.2.2.1, hI.2.2.2.2.1, hI.2.2.2.2.2.1, hI.2.2.2.2.2.2.1, hI.2.2.2.2.2.2.2⟩
    · refine iteI (fun h3 => ?_) (fun h3 => ?_)
      · refine iteI (fun h4 => ?_) (fun h4 => ?_)
        · exact ⟨hI.1, hI.2.1, hI.2.2.1, hI.2.2.2.1, hI.2.2.2.2.1, hI.2.2.2.2.2.1, hI.2.2.2.2.2.2.1, hI.2.2.2.2.2.2.2⟩
        · exact ⟨hI.1, hI.2.1, hI.2.2.1, hI.2.2.2.1, hI.2.2.2.2.1, hI.2.2.2.2.2.1, hI.2.2.2.2.2.2.1, hI.2.2.2.2.2.2.2⟩
      · exact ⟨hI.1, hI.2.1, hI.2.2.1, hI.2.2.2.1, hI.2.2.2.2.1, hI.2.2.2.2.2.1, hI.2.2.2.2.2.2.1, hI.2.2.2.2.2.2.2⟩
set_option maxRecDepth 100000 in
set_option maxHeartbeats 4000000 in
theorem okX5_copy (l : Launch) (D : va_G) (cI cJ cP : ClassId) (ad : Nat → Nat) (sz : Nat) (x : TM) (a0 : Int32) (a1 : Int32) (hI : iM x) : Met l yX5_copy (Cond.code yX5_copy cX5_copy 3 (some .int) :: gG) { frames := 0, cells := 0, slots := 0, locals := 0 } (va_Pc [.ref (ad 0), .int a0, .int a1] (PRE D (tz cI cJ cP) sz (wM cI cJ ad x))) (va_Qi (fun (r : Int32) (u : TM) => (r, u) = fnX5_copy x a0 a1) (AT D (tz cI cJ cP) (va_A (wM cI cJ ad x) sz) (fun (u : TM) => (wM cI cJ ad u))) (va_A (wM cI cJ ad x) sz)) 0 0 (va_A (wM cI cJ ad x) sz) := by
  refine mo (QA := fun A => va_Qi (fun (r : Int32) (u : TM) => (r, u) = fnX5_copy x a0 a1) (AT D (tz cI cJ cP) A (fun (u : TM) => (wM cI cJ ad u))) A) (by decide) (Nat.le_of_ble_eq_true rfl) ?_
  intro p e s m below meth c A ls H hx hb hr hml hown hG hlocks hnm hA hS hP hK hD hl hN
  have hown : s.vm.findClass RX5 = some m.cls := hown
  have hl : lv_has ls 3 [(0, .ref (ad 0)), (1, .int a0), (2, .int a1)] := hl
  refine lv_aload_n hx hb dX5_copy_0 rfl (lv_at hl 0 rfl) ?_
  refine lv_iconst (v := 0) hx hb dX5_copy_1 (by decide) ?_
  refine pu (D := D) (ci := 5) (v := .int ((0 : Int32))) (ty := .int) (W' := (wM cI cJ ad ((0 : Int32), x.2.1, x.2.2.1, x.2.2.2.1, x.2.2.2.2.1, x.2.2.2.2.2.1, x.2.2.2.2.2.2.1, x.2.2.2.2.2.2.2.1, x.2.2.2.2.2.2.2.2.1, x.2.2.2.2.2.2.2.2.2.1, x.2.2.2.2.2.2.2.2.2.2.1, x.2.2.2.2.2.2.2.2.2.2.2.1, x.2.2.2.2.2.2.2.2.2.2.2.2.1, x.2.2.2.2.2.2.2.2.2.2.2.2.2.1, x.2.2.2.2.2.2.2.2.2.2.2.2.2.2))) hx hb hG inX5 tyX5 tyokX5 nmX5 hown hK hP hD hS 0 rfl rfl 0 (by decide) (hG _ kw241) (fun _ h9 => h9) rfl (by decide +kernel) rfl rfl (Nat.le_of_ble_eq_true rfl) dX5_copy_2 rfl (fun H locs hP hD hS => ?_)
  refine lv_iload_n hx hb dX5_copy_5 rfl (lv_at hl 1 rfl) ?_
  refine lv_if_lt (tgt := 34) hx hb dX5_copy_6 (by decide) (fun h1 => ?_) (fun h1 => ?_)
  · refine lv_iconst (v := (-1)) hx hb dX5_copy_34 (by decide) ?_
    exact reti (u := ((0 : Int32), x.2.1, x.2.2.1, x.2.2.2.1, x.2.2.2.2.1, x.2.2.2.2.2.1, x.2.2.2.2.2.2.1, x.2.2.2.2.2.2.2.1, x.2.2.2.2.2.2.2.2.1, x.2.2.2.2.2.2.2.2.2.1, x.2.2.2.2.2.2.2.2.2.2.1, x.2.2.2.2.2.2.2.2.2.2.2.1, x.2.2.2.2.2.2.2.2.2.2.2.2.1, x.2.2.2.2.2.2.2.2.2.2.2.2.2.1, x.2.2.2.2.2.2.2.2.2.2.2.2.2.2)) hx hb hr hlocks hK hP hD hS dX5_copy_35 (by unfold fnX5_copy; (try dsimp only); rw [if_pos h1]; (try exact rfl))
  · refine lv_iload_n hx hb dX5_copy_9 rfl (lv_at hl 2 rfl) ?_
    refine lv_if_ne (tgt := 21) hx hb dX5_copy_10 (by decide) (fun h2 => ?_) (fun h2 => ?_)
    · refine lv_iload_n hx hb dX5_copy_21 rfl (lv_at hl 2 rfl) ?_
      refine lv_iconst (v := 1) hx hb dX5_copy_22 (by decide) ?_
      refine lv_icmp_ne (tgt := 36) hx hb dX5_copy_23 (by decide) (fun h3 => ?_) (fun h3 => ?_)
      · refine lv_iload_n hx hb dX5_copy_36 rfl (lv_at hl 2 rfl) ?_
        refine lv_if_ne (tgt := 49) hx hb dX5_copy_37 (by decide) (fun _ => ?_) (fun h9 => absurd h9 h2)
        refine lv_iload_n hx hb dX5_copy_49 rfl (lv_at hl 2 rfl) ?_
        refine lv_iconst (v := 1) hx hb dX5_copy_50 (by decide) ?_
        refine lv_icmp_ne (tgt := 63) hx hb dX5_copy_51 (by decide) (fun _ => ?_) (fun h9 => absurd h9 h3)
        refine lv_iconst (v := (-1)) hx hb dX5_copy_63 (by decide) ?_
        exact reti (u := ((0 : Int32), x.2.1, x.2.2.1, x.2.2.2.1, x.2.2.2.2.1, x.2.2.2.2.2.1, x.2.2.2.2.2.2.1, x.2.2.2.2.2.2.2.1, x.2.2.2.2.2.2.2.2.1, x.2.2.2.2.2.2.2.2.2.1, x.2.2.2.2.2.2.2.2.2.2.1, x.2.2.2.2.2.2.2.2.2.2.2.1, x.2.2.2.2.2.2.2.2.2.2.2.2.1, x.2.2.2.2.2.2.2.2.2.2.2.2.2.1, x.2.2.2.2.2.2.2.2.2.2.2.2.2.2)) hx hb hr hlocks hK hP hD hS dX5_copy_64 (by unfold fnX5_copy; (try dsimp only); rw [if_neg h1]; rw [if_neg h2]; rw [if_neg h3]; (try exact rfl))
      · refine lv_iload_n hx hb dX5_copy_26 rfl (lv_at hl 1 rfl) ?_
        refine lv_aload_n hx hb dX5_copy_27 rfl (lv_at hl 0 rfl) ?_
        refine va_get (D := D) (ci := 5) (v := .int (x.2.2.2.1.1)) hx hb hG inX5 hown hK hP 0 rfl rfl 3 (by decide) (hG _ kw253) (fun _ h9 => h9) rfl dX5_copy_28 ?_
        refine lv_icmp_lt (tgt := 36) hx hb dX5_copy_31 (by decide) (fun h4 => ?_) (fun h4 => ?_)
        · refine lv_iload_n hx hb dX5_copy_36 rfl (lv_at hl 2 rfl) ?_
          refine lv_if_ne (tgt := 49) hx hb dX5_copy_37 (by decide) (fun _ => ?_) (fun h9 => absurd h9 h2)
          refine lv_iload_n hx hb dX5_copy_49 rfl (lv_at hl 2 rfl) ?_
          refine lv_iconst (v := 1) hx hb dX5_copy_50 (by decide) ?_
          refine lv_icmp_ne (tgt := 63) hx hb dX5_copy_51 (by decide) (fun h9 => absurd h3 h9) (fun _ => ?_)
          refine lv_aload_n hx hb dX5_copy_54 rfl (lv_at hl 0 rfl) ?_
          refine va_get (D := D) (ci := 5) (v := .ref (ad 3)) hx hb hG inX5 hown hK hP 0 rfl rfl 5 (by decide) (hG _ kw254) (fun _ h9 => h9) rfl dX5_copy_55 ?_
          refine lv_iload_n hx hb dX5_copy_58 rfl (lv_at hl 1 rfl) ?_
          refine gi (D := D) (j := (a0).toNatClampNeg) (f := x.2.2.2.1.2.1) hx hb hK hP 3 0 rfl rfl (nameIn5 hI.2.1 h1 (Int32.not_le.mpr h4)) rfl dX5_copy_59 ?_
          refine lv_goto (tgt := 64) hx hb dX5_copy_60 (by decide) ?_
          exact reti (u := ((0 : Int32), x.2.1, x.2.2.1, x.2.2.2.1, x.2.2.2.2.1, x.2.2.2.2.2.1, x.2.2.2.2.2.2.1, x.2.2.2.2.2.2.2.1, x.2.2.2.2.2.2.2.2.1, x.2.2.2.2.2.2.2.2.2.1, x.2.2.2.2.2.2.2.2.2.2.1, x.2.2.2.2.2.2.2.2.2.2.2.1, x.2.2.2.2.2.2.2.2.2.2.2.2.1, x.2.2.2.2.2.2.2.2.2.2.2.2.2.1, x.2.2.2.2.2.2.2.2.2.2.2.2.2.2)) hx hb hr hlocks hK hP hD hS dX5_copy_64 (by unfold fnX5_copy; (try dsimp only); rw [if_neg h1]; rw [if_neg h2]; rw [if_pos h3]; rw [if_pos h4]; (try exact rfl))
        · refine lv_iconst (v := (-1)) hx hb dX5_copy_34 (by decide) ?_
          exact reti (u := ((0 : Int32), x.2.1, x.2.2.1, x.2.2.2.1, x.2.2.2.2.1, x.2.2.2.2.2.1, x.2.2.2.2.2.2.1, x.2.2.2.2.2.2.2.1, x.2.2.2.2.2.2.2.2.1, x.2.2.2.2.2.2.2.2.2.1, x.2.2.2.2.2.2.2.2.2.2.1, x.2.2.2.2.2.2.2.2.2.2.2.1, x.2.2.2.2.2.2.2.2.2.2.2.2.1, x.2.2.2.2.2.2.2.2.2.2.2.2.2.1, x.2.2.2.2.2.2.2.2.2.2.2.2.2.2)) hx hb hr hlocks hK hP hD hS dX5_copy_35 (by unfold fnX5_copy; (try dsimp only); rw [if_neg h1]; rw [if_neg h2]; rw [if_pos h3]; rw [if_neg h4]; (try exact rfl))
    · refine lv_iload_n hx hb dX5_copy_13 rfl (lv_at hl 1 rfl) ?_
      refine lv_aload_n hx hb dX5_copy_14 rfl (lv_at hl 0 rfl) ?_
      refine va_get (D := D) (ci := 5) (v := .int (x.2.2.1.1)) hx hb hG inX5 hown hK hP 0 rfl rfl 2 (by decide) (hG _ kw251) (fun _ h9 => h9) rfl dX5_copy_15 ?_
      refine lv_icmp_ge (tgt := 34) hx hb dX5_copy_18 (by decide) (fun h5 => ?_) (fun h5 => ?_)
      · refine lv_iconst (v := (-1)) hx hb dX5_copy_34 (by decide) ?_
        exact reti (u := ((0 : Int32), x.2.1, x.2.2.1, x.2.2.2.1, x.2.2.2.2.1, x.2.2.2.2.2.1, x.2.2.2.2.2.2.1, x.2.2.2.2.2.2.2.1, x.2.2.2.2.2.2.2.2.1, x.2.2.2.2.2.2.2.2.2.1, x.2.2.2.2.2.2.2.2.2.2.1, x.2.2.2.2.2.2.2.2.2.2.2.1, x.2.2.2.2.2.2.2.2.2.2.2.2.1, x.2.2.2.2.2.2.2.2.2.2.2.2.2.1, x.2.2.2.2.2.2.2.2.2.2.2.2.2.2)) hx hb hr hlocks hK hP hD hS dX5_copy_35 (by unfold fnX5_copy; (try dsimp only); rw [if_neg h1]; rw [if_pos h2]; rw [if_pos h5]; (try exact rfl))
      · refine lv_iload_n hx hb dX5_copy_21 rfl (lv_at hl 2 rfl) ?_
        refine lv_iconst (v := 1) hx hb dX5_copy_22 (by decide) ?_
        refine lv_icmp_ne (tgt := 36) hx hb dX5_copy_23 (by decide) (fun h6 => ?_) (fun h6 => ?_)
        · refine lv_iload_n hx hb dX5_copy_36 rfl (lv_at hl 2 rfl) ?_
          refine lv_if_ne (tgt := 49) hx hb dX5_copy_37 (by decide) (fun h9 => absurd h2 h9) (fun _ => ?_)
          refine lv_aload_n hx hb dX5_copy_40 rfl (lv_at hl 0 rfl) ?_
          refine va_get (D := D) (ci := 5) (v := .ref (ad 2)) hx hb hG inX5 hown hK hP 0 rfl rfl 4 (by decide) (hG _ kw252) (fun _ h9 => h9) rfl dX5_copy_41 ?_
          refine lv_iload_n hx hb dX5_copy_44 rfl (lv_at hl 1 rfl) ?_
          refine gi (D := D) (j := (a0).toNatClampNeg) (f := x.2.2.1.2.1) hx hb hK hP 2 0 rfl rfl (nameIn5 hI.1 h1 h5) rfl dX5_copy_45 ?_
          refine lv_goto (tgt := 64) hx hb dX5_copy_46 (by decide) ?_
          exact reti (u := ((0 : Int32), x.2.1, x.2.2.1, x.2.2.2.1, x.2.2.2.2.1, x.2.2.2.2.2.1, x.2.2.2.2.2.2.1, x.2.2.2.2.2.2.2.1, x.2.2.2.2.2.2.2.2.1, x.2.2.2.2.2.2.2.2.2.1, x.2.2.2.2.2.2.2.2.2.2.1, x.2.2.2.2.2.2.2.2.2.2.2.1, x.2.2.2.2.2.2.2.2.2.2.2.2.1, x.2.2.2.2.2.2.2.2.2.2.2.2.2.1, x.2.2.2.2.2.2.2.2.2.2.2.2.2.2)) hx hb hr hlocks hK hP hD hS dX5_copy_64 (by unfold fnX5_copy; (try dsimp only); rw [if_neg h1]; rw [if_pos h2]; rw [if_neg h5]; rw [if_neg h6]; (try exact rfl))
        · refine lv_iload_n hx hb dX5_copy_26 rfl (lv_at hl 1 rfl) ?_
          refine lv_aload_n hx hb dX5_copy_27 rfl (lv_at hl 0 rfl) ?_
          refine va_get (D := D) (ci := 5) (v := .int (x.2.2.2.1.1)) hx hb hG inX5 hown hK hP 0 rfl rfl 3 (by decide) (hG _ kw253) (fun _ h9 => h9) rfl dX5_copy_28 ?_
          refine lv_icmp_lt (tgt := 36) hx hb dX5_copy_31 (by decide) (fun h7 => ?_) (fun h7 => ?_)
          · refine lv_iload_n hx hb dX5_copy_36 rfl (lv_at hl 2 rfl) ?_
            refine lv_if_ne (tgt := 49) hx hb dX5_copy_37 (by decide) (fun h9 => absurd h2 h9) (fun _ => ?_)
            refine lv_aload_n hx hb dX5_copy_40 rfl (lv_at hl 0 rfl) ?_
            refine va_get (D := D) (ci := 5) (v := .ref (ad 2)) hx hb hG inX5 hown hK hP 0 rfl rfl 4 (by decide) (hG _ kw252) (fun _ h9 => h9) rfl dX5_copy_41 ?_
            refine lv_iload_n hx hb dX5_copy_44 rfl (lv_at hl 1 rfl) ?_
            refine gi (D := D) (j := (a0).toNatClampNeg) (f := x.2.2.1.2.1) hx hb hK hP 2 0 rfl rfl (nameIn5 hI.1 h1 h5) rfl dX5_copy_45 ?_
            refine lv_goto (tgt := 64) hx hb dX5_copy_46 (by decide) ?_
            exact reti (u := ((0 : Int32), x.2.1, x.2.2.1, x.2.2.2.1, x.2.2.2.2.1, x.2.2.2.2.2.1, x.2.2.2.2.2.2.1, x.2.2.2.2.2.2.2.1, x.2.2.2.2.2.2.2.2.1, x.2.2.2.2.2.2.2.2.2.1, x.2.2.2.2.2.2.2.2.2.2.1, x.2.2.2.2.2.2.2.2.2.2.2.1, x.2.2.2.2.2.2.2.2.2.2.2.2.1, x.2.2.2.2.2.2.2.2.2.2.2.2.2.1, x.2.2.2.2.2.2.2.2.2.2.2.2.2.2)) hx hb hr hlocks hK hP hD hS dX5_copy_64 (by unfold fnX5_copy; (try dsimp only); rw [if_neg h1]; rw [if_pos h2]; rw [if_neg h5]; rw [if_pos h6]; rw [if_pos h7]; (try exact rfl))
          · refine lv_iconst (v := (-1)) hx hb dX5_copy_34 (by decide) ?_
            exact reti (u := ((0 : Int32), x.2.1, x.2.2.1, x.2.2.2.1, x.2.2.2.2.1, x.2.2.2.2.2.1, x.2.2.2.2.2.2.1, x.2.2.2.2.2.2.2.1, x.2.2.2.2.2.2.2.2.1, x.2.2.2.2.2.2.2.2.2.1, x.2.2.2.2.2.2.2.2.2.2.1, x.2.2.2.2.2.2.2.2.2.2.2.1, x.2.2.2.2.2.2.2.2.2.2.2.2.1, x.2.2.2.2.2.2.2.2.2.2.2.2.2.1, x.2.2.2.2.2.2.2.2.2.2.2.2.2.2)) hx hb hr hlocks hK hP hD hS dX5_copy_35 (by unfold fnX5_copy; (try dsimp only); rw [if_neg h1]; rw [if_pos h2]; rw [if_neg h5]; rw [if_pos h6]; rw [if_neg h7]; (try exact rfl))
