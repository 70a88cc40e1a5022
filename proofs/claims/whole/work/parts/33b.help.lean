abbrev TRO : Type := TR × (Nat → Int64)
abbrev iRO (x : TRO) : Prop := iR x.1
def wRO (cI cJ cP : ClassId) (ad : Nat → Nat) (o : Nat) (x : TR) (f : Nat → Int64) : va_W := wR cI cJ cP ad x ++ [(o, .inl (cJ, 1, .inr (.inl f)))]
def fnL_poke (x : TR) (a1 : Int32) (a2 : Int64) : Int32 × TR :=
  let p1 := fnX4_poke x a1 a2
  ((0 : Int32), p1)
abbrev ivL_pokeP (z : Int32 × TR) : Prop := iR z.2
set_option maxRecDepth 100000 in
set_option maxHeartbeats 4000000 in
theorem ivL_poke (x : TR) (a1 : Int32) (a2 : Int64) (hI : iR x) (g1 : i12 a1) : ivL_pokeP (fnL_poke x a1 a2) := by
  unfold fnL_poke
  try dsimp only
  have j1 : ivX4_pokeP (fnX4_poke x a1 a2) := ivX4_poke x a1 a2 hI g1
  generalize fnX4_poke x a1 a2 = p1 at j1 ⊢
  exact j1
set_option maxRecDepth 100000 in
set_option maxHeartbeats 4000000 in
theorem okL_poke (l : Launch) (D : va_G) (cI cJ cP : ClassId) (ad : Nat → Nat) (sz : Nat) (x : TR) (a1 : Int32) (a2 : Int64) (hI : iR x) (g1 : i12 a1) : Met l yL_poke (Cond.codeWith yL_poke cL_poke 5 (some .int) [(0, 6, 9, 13)] :: gG) { frames := 1, cells := 0, slots := 0, locals := 23 } (va_Pc [.ref (ad 0), .int a1, .long a2] (fun U => PRE D (tz cI cJ cP) sz (wR cI cJ cP ad x) U ∧ ZX (va_A (wR cI cJ cP ad x) sz) U ∧ va_Nc eA eI U)) (va_Qi (fun (r : Int32) (u : TR) => (r, u) = fnL_poke x a1 a2) (AT D (tz cI cJ cP) (va_A (wR cI cJ cP ad x) sz) (fun (u : TR) => (wR cI cJ cP ad u))) (va_A (wR cI cJ cP ad x) sz)) 0 0 (va_A (wR cI cJ cP ad x) sz) := by
  refine mh (QA := fun A => va_Qi (fun (r : Int32) (u : TR) => (r, u) = fnL_poke x a1 a2) (AT D (tz cI cJ cP) A (fun (u : TR) => (wR cI cJ cP ad u))) A) (by decide) (Nat.le_of_ble_eq_true rfl) ?_
  intro p e s m below meth c A ls H hx hb hr hml hown hG hlocks htab hA hS hP hK hD hl hN hZ hNc
  have hown : s.vm.findClass RL = some m.cls := hown
  have hl : lv_has ls 5 [(0, .ref (ad 0)), (1, .int a1), (2, .long a2)] := hl
  refine lv_aload_n hx hb dL_poke_0 rfl (lv_at hl 0 rfl) ?_
  refine lv_iload_n hx hb dL_poke_1 rfl (lv_at hl 1 rfl) ?_
  refine lv_lload_n hx hb dL_poke_2 rfl (lv_at hl 2 rfl) ?_
  refine kFv (As := [.int (a1), .long (a2)]) (rest := []) hx hb hml hown hG hl (okX4_poke l D cI cJ cP ad H.size x a1 a2 hI g1) (cV 2 hG kw395 kw396 kw397 kw398 kw5 hdX4_poke ⟨by decide, by decide⟩) 0 4 rfl rfl hK hP hD hS hA hN rfl rfl (Nat.le_of_ble_eq_true rfl) dL_poke_3 ⟨Nat.zero_le _, Nat.zero_le _⟩ (fun u1 q1 H locs hP hD hS => ?_)
  have j1 : ivX4_pokeP u1 := by rw [q1]; exact ivX4_poke x a1 a2 hI g1
  refine lv_goto (tgt := 13) hx hb dL_poke_6 (by decide) ?_
  refine lv_iconst (v := 0) hx hb dL_poke_13 (by decide) ?_
  exact reti (u := u1) hx hb hr hlocks hK hP hD hS dL_poke_14 (by unfold fnL_poke; rw [← q1]; (try dsimp only); (try exact rfl))
def fnL_peek (x : TR) (f : Nat → Int64) (a1 : Int32) : Int32 × TRO :=
  let p1 := fnX4_peek x a1
  ((0 : Int32), (x, (vp_updL f 0 p1)))
abbrev ivL_peekP (z : Int32 × TRO) : Prop := iRO z.2
set_option maxRecDepth 100000 in
set_option maxHeartbeats 4000000 in
theorem ivL_peek (x : TR) (f : Nat → Int64) (a1 : Int32) (hI : iR x) (g1 : i12 a1) : ivL_peekP (fnL_peek x f a1) := by
  unfold fnL_peek
  try dsimp only
  generalize fnX4_peek x a1 = p1
  exact hI
set_option maxRecDepth 100000 in
set_option maxHeartbeats 4000000 in
theorem okL_peek (l : Launch) (D : va_G) (cI cJ cP : ClassId) (ad : Nat → Nat) (o : Nat) (sz : Nat) (x : TR) (f : Nat → Int64) (a1 : Int32) (hI : iR x) (g1 : i12 a1) : Met l yL_peek (Cond.codeWith yL_peek cL_peek 4 (some .int) [(0, 8, 11, 13)] :: gG) { frames := 1, cells := 0, slots := 0, locals := 21 } (va_Pc [.ref (ad 0), .int a1, .ref (o)] (fun U => PRE D (tz cI cJ cP) sz (wRO cI cJ cP ad o x f) U ∧ ZX (va_A (wRO cI cJ cP ad o x f) sz) U ∧ va_Nc eA eI U)) (va_Qi (fun (r : Int32) (u : TRO) => (r, u) = fnL_peek x f a1) (AT D (tz cI cJ cP) (va_A (wRO cI cJ cP ad o x f) sz) (fun (u : TRO) => (wRO cI cJ cP ad o u.1 u.2))) (va_A (wRO cI cJ cP ad o x f) sz)) 0 0 (va_A (wRO cI cJ cP ad o x f) sz) := by
  refine mh (QA := fun A => va_Qi (fun (r : Int32) (u : TRO) => (r, u) = fnL_peek x f a1) (AT D (tz cI cJ cP) A (fun (u : TRO) => (wRO cI cJ cP ad o u.1 u.2))) A) (by decide) (Nat.le_of_ble_eq_true rfl) ?_
  intro p e s m below meth c A ls H hx hb hr hml hown hG hlocks htab hA hS hP hK hD hl hN hZ hNc
  have hown : s.vm.findClass RL = some m.cls := hown
  have hl : lv_has ls 4 [(0, .ref (ad 0)), (1, .int a1), (2, .ref (o))] := hl
  refine lv_aload_n hx hb dL_peek_0 rfl (lv_at hl 2 rfl) ?_
  refine lv_iconst (v := 0) hx hb dL_peek_1 (by decide) ?_
  refine lv_aload_n hx hb dL_peek_2 rfl (lv_at hl 0 rfl) ?_
  refine lv_iload_n hx hb dL_peek_3 rfl (lv_at hl 1 rfl) ?_
  refine kPl (As := [.int (a1)]) (rest := [.int ((0 : Int32)), .ref (o)]) (W' := (fun _ => (wRO cI cJ cP ad o x f))) hx hb hml hown hG hl (okX4_peek l D cI cJ cP ad H.size x a1 hI g1) (cV 1 hG kw399 kw400 kw401 kw402 kw5 hdX4_peek ⟨by decide, by decide⟩) 0 4 rfl rfl hK hP hD hS hA hN rfl (fun _ => rfl) rfl rfl (Nat.le_of_ble_eq_true rfl) dL_peek_4 ⟨Nat.zero_le _, Nat.zero_le _⟩ (fun r1 _ q1 H locs hP hD hS => ?_)
  refine sl (D := D) (j := 0) (f := f) (x := r1) (W' := (wRO cI cJ cP ad o x (vp_updL f 0 r1))) hx hb hK hP hD hS 21 1 rfl rfl (inL (by decide)) (by decide) dL_peek_7 rfl (fun H locs hP hD hS => ?_)
  refine lv_goto (tgt := 14) hx hb dL_peek_8 (by decide) ?_
  refine lv_iconst (v := 0) hx hb dL_peek_14 (by decide) ?_
  exact reti (u := (x, (vp_updL f 0 r1))) hx hb hr hlocks hK hP hD hS dL_peek_15 (by unfold fnL_peek; rw [← q1]; (try dsimp only); (try exact rfl))
def fnL_set (x : TR) (a1 : Int32) (a2 : Int64) : Int32 × TR :=
  let p1 := fnX4_set x a1 a2
  ((0 : Int32), p1)
abbrev ivL_setP (z : Int32 × TR) : Prop := iR z.2
set_option maxRecDepth 100000 in
set_option maxHeartbeats 4000000 in
theorem ivL_set (x : TR) (a1 : Int32) (a2 : Int64) (hI : iR x) (g1 : i10 a1) : ivL_setP (fnL_set x a1 a2) := by
  unfold fnL_set
  try dsimp only
  have j1 : ivX4_setP (fnX4_set x a1 a2) := ivX4_set x a1 a2 hI g1
  generalize fnX4_set x a1 a2 = p1 at j1 ⊢
  exact j1
set_option maxRecDepth 100000 in
set_option maxHeartbeats 4000000 in
theorem okL_set (l : Launch) (D : va_G) (cI cJ cP : ClassId) (ad : Nat → Nat) (sz : Nat) (x : TR) (a1 : Int32) (a2 : Int64) (hI : iR x) (g1 : i10 a1) : Met l yL_set (Cond.codeWith yL_set cL_set 5 (some .int) [(0, 6, 9, 13)] :: gG) { frames := 3, cells := 0, slots := 0, locals := 68 } (va_Pc [.ref (ad 0), .int a1, .long a2] (fun U => PRE D (tz cI cJ cP) sz (wR cI cJ cP ad x) U ∧ ZX (va_A (wR cI cJ cP ad x) sz) U ∧ va_Nc eA eI U)) (va_Qi (fun (r : Int32) (u : TR) => (r, u) = fnL_set x a1 a2) (AT D (tz cI cJ cP) (va_A (wR cI cJ cP ad x) sz) (fun (u : TR) => (wR cI cJ cP ad u))) (va_A (wR cI cJ cP ad x) sz)) 0 0 (va_A (wR cI cJ cP ad x) sz) := by
  refine mh (QA := fun A => va_Qi (fun (r : Int32) (u : TR) => (r, u) = fnL_set x a1 a2) (AT D (tz cI cJ cP) A (fun (u : TR) => (wR cI cJ cP ad u))) A) (by decide) (Nat.le_of_ble_eq_true rfl) ?_
  intro p e s m below meth c A ls H hx hb hr hml hown hG hlocks htab hA hS hP hK hD hl hN hZ hNc
  have hown : s.vm.findClass RL = some m.cls := hown
  have hl : lv_has ls 5 [(0, .ref (ad 0)), (1, .int a1), (2, .long a2)] := hl
  refine lv_aload_n hx hb dL_set_0 rfl (lv_at hl 0 rfl) ?_
  refine lv_iload_n hx hb dL_set_1 rfl (lv_at hl 1 rfl) ?_
  refine lv_lload_n hx hb dL_set_2 rfl (lv_at hl 2 rfl) ?_
  refine kFv (As := [.int (a1), .long (a2)]) (rest := []) hx hb hml hown hG hl (okX4_set l D cI cJ cP ad H.size x a1 a2 hI g1) (cV 2 hG kw403 kw404 kw405 kw406 kw5 hdX4_set ⟨by decide, by decide⟩) 0 4 rfl rfl hK hP hD hS hA hN rfl rfl (Nat.le_of_ble_eq_true rfl) dL_set_3 ⟨Nat.zero_le _, Nat.zero_le _⟩ (fun u1 q1 H locs hP hD hS => ?_)
  have j1 : ivX4_setP u1 := by rw [q1]; exact ivX4_set x a1 a2 hI g1
  refine lv_goto (tgt := 13) hx hb dL_set_6 (by decide) ?_
  refine lv_iconst (v := 0) hx hb dL_set_13 (by decide) ?_
  exact reti (u := u1) hx hb hr hlocks hK hP hD hS dL_set_14 (by unfold fnL_set; rw [← q1]; (try dsimp only); (try exact rfl))
def fnL_get (x : TR) (f : Nat → Int64) (a1 : Int32) : Int32 × TRO :=
  let p1 := fnX4_get x a1
  ((0 : Int32), (x, (vp_updL f 0 p1)))
abbrev ivL_getP (z : Int32 × TRO) : Prop := iRO z.2
set_option maxRecDepth 100000 in
set_option maxHeartbeats 4000000 in
theorem ivL_get (x : TR) (f : Nat → Int64) (a1 : Int32) (hI : iR x) (g1 : i10 a1) : ivL_getP (fnL_get x f a1) := by
  unfold fnL_get
  try dsimp only
  generalize fnX4_get x a1 = p1
  exact hI
set_option maxRecDepth 100000 in
set_option maxHeartbeats 4000000 in
theorem okL_get (l : Launch) (D : va_G) (cI cJ cP : ClassId) (ad : Nat → Nat) (o : Nat) (sz : Nat) (x : TR) (f : Nat → Int64) (a1 : Int32) (hI : iR x) (g1 : i10 a1) : Met l yL_get (Cond.codeWith yL_get cL_get 4 (some .int) [(0, 8, 11, 13)] :: gG) { frames := 2, cells := 0, slots := 0, locals := 41 } (va_Pc [.ref (ad 0), .int a1, .ref (o)] (fun U => PRE D (tz cI cJ cP) sz (wRO cI cJ cP ad o x f) U ∧ ZX (va_A (wRO cI cJ cP ad o x f) sz) U ∧ va_Nc eA eI U)) (va_Qi (fun (r : Int32) (u : TRO) => (r, u) = fnL_get x f a1) (AT D (tz cI cJ cP) (va_A (wRO cI cJ cP ad o x f) sz) (fun (u : TRO) => (wRO cI cJ cP ad o u.1 u.2))) (va_A (wRO cI cJ cP ad o x f) sz)) 0 0 (va_A (wRO cI cJ cP ad o x f) sz) := by
  refine mh (QA := fun A => va_Qi (fun (r : Int32) (u : TRO) => (r, u) = fnL_get x f a1) (AT D (tz cI cJ cP) A (fun (u : TRO) => (wRO cI cJ cP ad o u.1 u.2))) A) (by decide) (Nat.le_of_ble_eq_true rfl) ?_
  intro p e s m below meth c A ls H hx hb hr hml hown hG hlocks htab hA hS hP hK hD hl hN hZ hNc
  have hown : s.vm.findClass RL = some m.cls := hown
  have hl : lv_has ls 4 [(0, .ref (ad 0)), (1, .int a1), (2, .ref (o))] := hl
  refine lv_aload_n hx hb dL_get_0 rfl (lv_at hl 2 rfl) ?_
  refine lv_iconst (v := 0) hx hb dL_get_1 (by decide) ?_
  refine lv_aload_n hx hb dL_get_2 rfl (lv_at hl 0 rfl) ?_
  refine lv_iload_n hx hb dL_get_3 rfl (lv_at hl 1 rfl) ?_
  refine kPl (As := [.int (a1)]) (rest := [.int ((0 : Int32)), .ref (o)]) (W' := (fun _ => (wRO cI cJ cP ad o x f))) hx hb hml hown hG hl (okX4_get l D cI cJ cP ad H.size x a1 hI g1) (cV 1 hG kw407 kw408 kw409 kw410 kw5 hdX4_get ⟨by decide, by decide⟩) 0 4 rfl rfl hK hP hD hS hA hN rfl (fun _ => rfl) rfl rfl (Nat.le_of_ble_eq_true rfl) dL_get_4 ⟨Nat.zero_le _, Nat.zero_le _⟩ (fun r1 _ q1 H locs hP hD hS => ?_)
  refine sl (D := D) (j := 0) (f := f) (x := r1) (W' := (wRO cI cJ cP ad o x (vp_updL f 0 r1))) hx hb hK hP hD hS 21 1 rfl rfl (inL (by decide)) (by decide) dL_get_7 rfl (fun H locs hP hD hS => ?_)
  refine lv_goto (tgt := 14) hx hb dL_get_8 (by decide) ?_
  refine lv_iconst (v := 0) hx hb dL_get_14 (by decide) ?_
  exact reti (u := (x, (vp_updL f 0 r1))) hx hb hr hlocks hK hP hD hS dL_get_15 (by unfold fnL_get; rw [← q1]; (try dsimp only); (try exact rfl))
def fnL_run (x : TR) (f : Nat → Int64) (a1 : Int32) : Int32 × TRO :=
  let p1 := fnX4_run x a1
  ((0 : Int32), (p1.2, (vp_updL f 0 (p1.1).toInt64)))
abbrev ivL_runP (z : Int32 × TRO) : Prop := iRO z.2
set_option maxRecDepth 100000 in
set_option maxHeartbeats 4000000 in
theorem ivL_run (x : TR) (f : Nat → Int64) (a1 : Int32) (hI : iR x) (g1 : i100 a1) : ivL_runP (fnL_run x f a1) := by
  unfold fnL_run
  try dsimp only
  have j1 : ivX4_runP (fnX4_run x a1) := ivX4_run x a1 hI g1
  generalize fnX4_run x a1 = p1 at j1 ⊢
  exact j1
set_option maxRecDepth 100000 in
set_option maxHeartbeats 4000000 in
theorem okL_run (l : Launch) (D : va_G) (cI cJ cP : ClassId) (ad : Nat → Nat) (o : Nat) (sz : Nat) (x : TR) (f : Nat → Int64) (a1 : Int32) (hI : iR x) (g1 : i100 a1) : Met l yL_run (Cond.codeWith yL_run cL_run 4 (some .int) [(0, 9, 12, 29)] :: gG) { frames := 8, cells := 0, slots := 0, locals := 198 } (va_Pc [.ref (ad 0), .int a1, .ref (o)] (fun U => PRE D (tz cI cJ cP) sz (wRO cI cJ cP ad o x f) U ∧ ZX (va_A (wRO cI cJ cP ad o x f) sz) U ∧ va_Nc eA eI U)) (va_Qi (fun (r : Int32) (u : TRO) => (r, u) = fnL_run x f a1) (AT D (tz cI cJ cP) (va_A (wRO cI cJ cP ad o x f) sz) (fun (u : TRO) => (wRO cI cJ cP ad o u.1 u.2))) (va_A (wRO cI cJ cP ad o x f) sz)) 0 0 (va_A (wRO cI cJ cP ad o x f) sz) := by
  refine mh (QA := fun A => va_Qi (fun (r : Int32) (u : TRO) => (r, u) = fnL_run x f a1) (AT D (tz cI cJ cP) A (fun (u : TRO) => (wRO cI cJ cP ad o u.1 u.2))) A) (by decide) (Nat.le_of_ble_eq_true rfl) ?_
  intro p e s m below meth c A ls H hx hb hr hml hown hG hlocks htab hA hS hP hK hD hl hN hZ hNc
  have hown : s.vm.findClass RL = some m.cls := hown
  have hl : lv_has ls 4 [(0, .ref (ad 0)), (1, .int a1), (2, .ref (o))] := hl
  refine lv_aload_n hx hb dL_run_0 rfl (lv_at hl 2 rfl) ?_
  refine lv_iconst (v := 0) hx hb dL_run_1 (by decide) ?_
  refine lv_aload_n hx hb dL_run_2 rfl (lv_at hl 0 rfl) ?_
  refine lv_iload_n hx hb dL_run_3 rfl (lv_at hl 1 rfl) ?_
  refine kPi (As := [.int (a1)]) (rest := [.int ((0 : Int32)), .ref (o)]) (W' := (fun u1 => (wRO cI cJ cP ad o u1 f))) hx hb hml hown hG hl (okX4_run l D cI cJ cP ad H.size x a1 hI g1) (cV 1 hG kw411 kw412 kw413 kw414 kw5 hdX4_run ⟨by decide, by decide⟩) 0 4 rfl rfl hK hP hD hS hA hN rfl (fun _ => rfl) rfl rfl (Nat.le_of_ble_eq_true rfl) dL_run_4 ⟨Nat.zero_le _, Nat.zero_le _⟩ (fun r1 u1 q1 H locs hP hD hS => ?_)
  have j1 : ivX4_runP (r1, u1) := by rw [q1]; exact ivX4_run x a1 hI g1
  refine lv_i2l hx hb dL_run_7 rfl ?_
  refine sl (D := D) (j := 0) (f := f) (x := (r1).toInt64) (W' := (wRO cI cJ cP ad o u1 (vp_updL f 0 (r1).toInt64))) hx hb hK hP hD hS 21 1 rfl rfl (inL (by decide)) (by decide) dL_run_8 rfl (fun H locs hP hD hS => ?_)
  refine lv_goto (tgt := 15) hx hb dL_run_9 (by decide) ?_
  refine lv_iconst (v := 0) hx hb dL_run_15 (by decide) ?_
  exact reti (u := (u1, (vp_updL f 0 (r1).toInt64))) hx hb hr hlocks hK hP hD hS dL_run_16 (by unfold fnL_run; rw [← q1]; (try dsimp only); (try exact rfl))
def fnL_interrupt (x : TR) (a1 : Int32) : Int32 × TR :=
  let p1 := fnX4_interrupt x a1
  ((0 : Int32), p1)
abbrev ivL_interruptP (z : Int32 × TR) : Prop := iR z.2
set_option maxRecDepth 100000 in
set_option maxHeartbeats 4000000 in
theorem ivL_interrupt (x : TR) (a1 : Int32) (hI : iR x) (g1 : i2 a1) : ivL_interruptP (fnL_interrupt x a1) := by
  unfold fnL_interrupt
  try dsimp only
  have j1 : ivX4_interruptP (fnX4_interrupt x a1) := ivX4_interrupt x a1 hI g1
  generalize fnX4_interrupt x a1 = p1 at j1 ⊢
  exact j1
set_option maxRecDepth 100000 in
set_option maxHeartbeats 4000000 in
theorem okL_interrupt (l : Launch) (D : va_G) (cI cJ cP : ClassId) (ad : Nat → Nat) (sz : Nat) (x : TR) (a1 : Int32) (hI : iR x) (g1 : i2 a1) : Met l yL_interrupt (Cond.codeWith yL_interrupt cL_interrupt 3 (some .int) [(0, 5, 8, 13)] :: gG) { frames := 1, cells := 0, slots := 0, locals := 21 } (va_Pc [.ref (ad 0), .int a1] (fun U => PRE D (tz cI cJ cP) sz (wR cI cJ cP ad x) U ∧ ZX (va_A (wR cI cJ cP ad x) sz) U ∧ va_Nc eA eI U)) (va_Qi (fun (r : Int32) (u : TR) => (r, u) = fnL_interrupt x a1) (AT D (tz cI cJ cP) (va_A (wR cI cJ cP ad x) sz) (fun (u : TR) => (wR cI cJ cP ad u))) (va_A (wR cI cJ cP ad x) sz)) 0 0 (va_A (wR cI cJ cP ad x) sz) := by
  refine mh (QA := fun A => va_Qi (fun (r : Int32) (u : TR) => (r, u) = fnL_interrupt x a1) (AT D (tz cI cJ cP) A (fun (u : TR) => (wR cI cJ cP ad u))) A) (by decide) (Nat.le_of_ble_eq_true rfl) ?_
  intro p e s m below meth c A ls H hx hb hr hml hown hG hlocks htab hA hS hP hK hD hl hN hZ hNc
  have hown : s.vm.findClass RL = some m.cls := hown
  have hl : lv_has ls 3 [(0, .ref (ad 0)), (1, .int a1)] := hl
  refine lv_aload_n hx hb dL_interrupt_0 rfl (lv_at hl 0 rfl) ?_
  refine lv_iload_n hx hb dL_interrupt_1 rfl (lv_at hl 1 rfl) ?_
  refine kFv (As := [.int (a1)]) (rest := []) hx hb hml hown hG hl (okX4_interrupt l D cI cJ cP ad H.size x a1 hI g1) (cV 1 hG kw415 kw416 kw417 kw418 kw5 hdX4_interrupt ⟨by decide, by decide⟩) 0 4 rfl rfl hK hP hD hS hA hN rfl rfl (Nat.le_of_ble_eq_true rfl) dL_interrupt_2 ⟨Nat.zero_le _, Nat.zero_le _⟩ (fun u1 q1 H locs hP hD hS => ?_)
  have j1 : ivX4_interruptP u1 := by rw [q1]; exact ivX4_interrupt x a1 hI g1
  refine lv_goto (tgt := 11) hx hb dL_interrupt_5 (by decide) ?_
  refine lv_iconst (v := 0) hx hb dL_interrupt_11 (by decide) ?_
  exact reti (u := u1) hx hb hr hlocks hK hP hD hS dL_interrupt_12 (by unfold fnL_interrupt; rw [← q1]; (try dsimp only); (try exact rfl))
def fnL_reach (x : TR) (f : Nat → Int64) (a1 : Int32) (a2 : Int32) (a3 : Int32) (a4 : Int32) : Int32 × TRO :=
  let p1 := fnX4_reach x a1 a2 a3 a4
  ((0 : Int32), (p1.2, (vp_updL f 0 (p1.1).toInt64)))
abbrev ivL_reachP (z : Int32 × TRO) : Prop := iRO z.2
set_option maxRecDepth 100000 in
set_option maxHeartbeats 4000000 in
theorem ivL_reach (x : TR) (f : Nat → Int64) (a1 : Int32) (a2 : Int32) (a3 : Int32) (a4 : Int32) (hI : iR x) (g1 : i4 a1) (g2 : i12 a2) (g3 : i3 a3) (g4 : iw a4) : ivL_reachP (fnL_reach x f a1 a2 a3 a4) := by
  unfold fnL_reach
  try dsimp only
  have j1 : ivX4_reachP (fnX4_reach x a1 a2 a3 a4) := ivX4_reach x a1 a2 a3 a4 hI g1 g2 g3 g4
  generalize fnX4_reach x a1 a2 a3 a4 = p1 at j1 ⊢
  exact j1
set_option maxRecDepth 100000 in
set_option maxHeartbeats 4000000 in
theorem okL_reach (l : Launch) (D : va_G) (cI cJ cP : ClassId) (ad : Nat → Nat) (o : Nat) (sz : Nat) (x : TR) (f : Nat → Int64) (a1 : Int32) (a2 : Int32) (a3 : Int32) (a4 : Int32) (hI : iR x) (g1 : i4 a1) (g2 : i12 a2) (g3 : i3 a3) (g4 : iw a4) : Met l yL_reach (Cond.codeWith yL_reach cL_reach 7 (some .int) [(0, 14, 17, 13), (0, 14, 21, 29)] :: gG) { frames := 4, cells := 0, slots := 0, locals := 106 } (va_Pc [.ref (ad 0), .int a1, .int a2, .int a3, .int a4, .ref (o)] (fun U => PRE D (tz cI cJ cP) sz (wRO cI cJ cP ad o x f) U ∧ ZX (va_A (wRO cI cJ cP ad o x f) sz) U ∧ va_Nc eA eI U)) (va_Qi (fun (r : Int32) (u : TRO) => (r, u) = fnL_reach x f a1 a2 a3 a4) (AT D (tz cI cJ cP) (va_A (wRO cI cJ cP ad o x f) sz) (fun (u : TRO) => (wRO cI cJ cP ad o u.1 u.2))) (va_A (wRO cI cJ cP ad o x f) sz)) 0 0 (va_A (wRO cI cJ cP ad o x f) sz) := by
  refine mh (QA := fun A => va_Qi (fun (r : Int32) (u : TRO) => (r, u) = fnL_reach x f a1 a2 a3 a4) (AT D (tz cI cJ cP) A (fun (u : TRO) => (wRO cI cJ cP ad o u.1 u.2))) A) (by decide) (Nat.le_of_ble_eq_true rfl) ?_
  intro p e s m below meth c A ls H hx hb hr hml hown hG hlocks htab hA hS hP hK hD hl hN hZ hNc
  have hown : s.vm.findClass RL = some m.cls := hown
  have hl : lv_has ls 7 [(0, .ref (ad 0)), (1, .int a1), (2, .int a2), (3, .int a3), (4, .int a4), (5, .ref (o))] := hl
  refine lv_aload hx hb dL_reach_0 (lv_at hl 5 rfl) ?_
  refine lv_iconst (v := 0) hx hb dL_reach_2 (by decide) ?_
  refine lv_aload_n hx hb dL_reach_3 rfl (lv_at hl 0 rfl) ?_
  refine lv_iload_n hx hb dL_reach_4 rfl (lv_at hl 1 rfl) ?_
  refine lv_iload_n hx hb dL_reach_5 rfl (lv_at hl 2 rfl) ?_
  refine lv_iload_n hx hb dL_reach_6 rfl (lv_at hl 3 rfl) ?_
  refine lv_iload hx hb dL_reach_7 (lv_at hl 4 rfl) ?_
  refine kPi (As := [.int (a1), .int (a2), .int (a3), .int (a4)]) (rest := [.int ((0 : Int32)), .ref (o)]) (W' := (fun u1 => (wRO cI cJ cP ad o u1 f))) hx hb hml hown hG hl (okX4_reach l D cI cJ cP ad H.size x a1 a2 a3 a4 hI g1 g2 g3 g4) (cV 4 hG kw419 kw420 kw421 kw422 kw5 hdX4_reach ⟨by decide, by decide⟩) 0 4 rfl rfl hK hP hD hS hA hN rfl (fun _ => rfl) rfl rfl (Nat.le_of_ble_eq_true rfl) dL_reach_9 ⟨Nat.zero_le _, Nat.zero_le _⟩ (fun r1 u1 q1 H locs hP hD hS => ?_)
  have j1 : ivX4_reachP (r1, u1) := by rw [q1]; exact ivX4_reach x a1 a2 a3 a4 hI g1 g2 g3 g4
  refine lv_i2l hx hb dL_reach_12 rfl ?_
  refine sl (D := D) (j := 0) (f := f) (x := (r1).toInt64) (W' := (wRO cI cJ cP ad o u1 (vp_updL f 0 (r1).toInt64))) hx hb hK hP hD hS 21 1 rfl rfl (inL (by decide)) (by decide) dL_reach_13 rfl (fun H locs hP hD hS => ?_)
  refine lv_goto (tgt := 25) hx hb dL_reach_14 (by decide) ?_
  refine lv_iconst (v := 0) hx hb dL_reach_25 (by decide) ?_
  exact reti (u := (u1, (vp_updL f 0 (r1).toInt64))) hx hb hr hlocks hK hP hD hS dL_reach_26 (by unfold fnL_reach; rw [← q1]; (try dsimp only); (try exact rfl))
