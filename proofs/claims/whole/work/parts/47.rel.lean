/-! what an instruction does at its address, both sides -/
def cl (r : Int32 × TR) : TR := if r.1 = 0 then r.2 else fnX4_enter r.2 r.1
def endS (v : TM) : TM :=
  if v.2.2.2.2.2.2.2.2.2.2.2.1.1 ≤ 0 then
    if v.2.2.2.2.2.2.2.2.2.2.2.2.2.2 = 0 then
      (v.1, v.2.1, v.2.2.1, v.2.2.2.1, v.2.2.2.2.1, v.2.2.2.2.2.1, v.2.2.2.2.2.2.1, (v.2.2.2.2.2.2.2.1.1, ((v.2.2.2.2.2.2.2.1.2.1 + 1) &&& 4095), v.2.2.2.2.2.2.2.1.2.2), v.2.2.2.2.2.2.2.2.1, v.2.2.2.2.2.2.2.2.2.1, v.2.2.2.2.2.2.2.2.2.2.1, v.2.2.2.2.2.2.2.2.2.2.2.1, v.2.2.2.2.2.2.2.2.2.2.2.2.1, v.2.2.2.2.2.2.2.2.2.2.2.2.2.1, v.2.2.2.2.2.2.2.2.2.2.2.2.2.2)
    else v
  else fnX5_save v v.2.2.2.2.2.2.2.2.2.2.2.1.1 v.2.2.2.2.2.2.2.2.2.2.2.1.2.1 v.2.2.2.2.2.2.2.2.2.2.2.1.2.2
/-- the two states say the same -/
def Rl (th : Int32) (u : TR) (v : TM) : Prop := ∃ (D : TMD) (G : TMG) (P : TMP) (B : TMB) (E : TMQ) (X : TMX) (J : Int32), v = mk th u D G P B E X J ∧ RC u.2.2.2.2.2.2.2.2.1 D ∧ RP u.2.2.2.2.2.2.2.2.2.1 G ∧ RT u.2.2.2.1 P
def Fin2 (th : Int32) (r : Int32 × TR) (v : TM) : Prop := Rl th (cl r) (endS v)
section
variable {th : Int32} {u : TR} {D : TMD} {G : TMG} {P : TMP} {b1 b2 : Int32} {E : TMQ} {X : TMX}
theorem finA (hC : RC u.2.2.2.2.2.2.2.2.1 D) (hP : RP u.2.2.2.2.2.2.2.2.2.1 G) (hT : RT u.2.2.2.1 P) : Fin2 th (fnX4_advance u) (mk th u D G P (0, b1, b2) E X 0) := by
  unfold Fin2 endS cl
  rw [if_pos (show (mk th u D G P (0, b1, b2) E X 0).2.2.2.2.2.2.2.2.2.2.2.1.1 ≤ 0 from by show (0 : Int32) ≤ 0; decide), if_pos (show (mk th u D G P (0, b1, b2) E X 0).2.2.2.2.2.2.2.2.2.2.2.2.2.2 = 0 from rfl), if_pos (show (fnX4_advance u).1 = 0 from rfl)]
  exact ⟨D, G, P, _, _, _, _, rfl, hC, hP, hT⟩
theorem finJ (hC : RC u.2.2.2.2.2.2.2.2.1 D) (hP : RP u.2.2.2.2.2.2.2.2.2.1 G) (hT : RT u.2.2.2.1 P) : Fin2 th (0, u) (mk th u D G P (0, b1, b2) E X 1) := by
  unfold Fin2 endS cl
  rw [if_pos (show (mk th u D G P (0, b1, b2) E X 1).2.2.2.2.2.2.2.2.2.2.2.1.1 ≤ 0 from by show (0 : Int32) ≤ 0; decide), if_neg (show ¬ (mk th u D G P (0, b1, b2) E X 1).2.2.2.2.2.2.2.2.2.2.2.2.2.2 = 0 from by show ¬ (1 : Int32) = 0; decide), if_pos rfl]
  exact ⟨D, G, P, _, _, _, _, rfl, hC, hP, hT⟩
theorem bd1 (f : Int32) : (bd f u).1 = f := by unfold bd; by_cases h : 4 < f <;> simp [h]
theorem enterR {f J : Int32} : fnX5_save (mk th u D G P (bd f u) E X J) (bd f u).1 (bd f u).2.1 (bd f u).2.2 = mk th (fnX4_enter u f) D G P (bd f u) E X J := by
  unfold fnX5_save fnX4_enter
  have e : (mk th u D G P (bd f u) E X J).2.2.2.2.2.2.2.2.1.1 = u.2.1.2.1 := rfl
  rw [e]
  by_cases h : 4 < f
  · have hb : bd f u = (f, u.2.2.2.2.1.1, u.2.2.2.2.1.2.1) := if_pos h
    rw [if_pos h]
    by_cases hh : u.2.1.2.1 = 0
    · rw [if_pos hh, if_pos hh, hb]; rfl
    · rw [if_neg hh, if_neg hh, hb]; rfl
  · have hb : bd f u = (f, u.2.2.2.2.2.1.1, u.2.2.2.2.2.1.2.1) := if_neg h
    rw [if_neg h]
    by_cases hh : u.2.1.2.1 = 0
    · rw [if_pos hh, if_pos hh, hb]; rfl
    · rw [if_neg hh, if_neg hh, hb]; rfl
theorem enterK (u : TR) (f : Int32) : (fnX4_enter u f).2.2.2.2.2.2.2 = u.2.2.2.2.2.2.2 ∧ (fnX4_enter u f).2.2.2.1 = u.2.2.2.1 := by
  unfold fnX4_enter
  by_cases h : 4 < f
  · rw [if_pos h]
    by_cases hh : u.2.1.2.1 = 0
    · rw [if_pos hh]; exact ⟨rfl, rfl⟩
    · rw [if_neg hh]; exact ⟨rfl, rfl⟩
  · rw [if_neg h]
    by_cases hh : u.2.1.2.1 = 0
    · rw [if_pos hh]; exact ⟨rfl, rfl⟩
    · rw [if_neg hh]; exact ⟨rfl, rfl⟩
theorem finF {f J : Int32} (h0 : ¬ f = 0) (h : ¬ f ≤ 0) (hC : RC u.2.2.2.2.2.2.2.2.1 D) (hP : RP u.2.2.2.2.2.2.2.2.2.1 G) (hT : RT u.2.2.2.1 P) : Fin2 th (f, u) (mk th u D G P (bd f u) E X J) := by
  unfold Fin2 endS cl
  rw [if_neg (show ¬ (mk th u D G P (bd f u) E X J).2.2.2.2.2.2.2.2.2.2.2.1.1 ≤ 0 from by show ¬ (bd f u).1 ≤ 0; rw [bd1]; exact h), if_neg (show ¬ (f, u).1 = 0 from h0)]
  refine ⟨D, G, P, bd f u, E, X, J, enterR, ?_, ?_, ?_⟩
  · rw [show (f, u).2 = u from rfl, show (f, u).1 = f from rfl, (enterK u f).1]; exact hC
  · rw [show (f, u).2 = u from rfl, show (f, u).1 = f from rfl, (enterK u f).1]; exact hP
  · rw [show (f, u).2 = u from rfl, show (f, u).1 = f from rfl, (enterK u f).2]; exact hT
theorem finFt {f J : Int32} (hf : ift f) (hC : RC u.2.2.2.2.2.2.2.2.1 D) (hP : RP u.2.2.2.2.2.2.2.2.2.1 G) (hT : RT u.2.2.2.1 P) : Fin2 th (f, u) (mk th u D G P (f, u.2.2.2.2.2.1.1, u.2.2.2.2.2.1.2.1) E X J) := by
  rw [← bdF hf]
  exact finF (ftZ hf).1 (ftZ hf).2 hC hP hT
theorem updI (f : Nat → Int32) (k : Nat) : upd f k (f k) = f := by
  funext j
  by_cases h : j = k
  · subst h; exact pk_us
  · exact pk_un h
theorem xorW {x y : Int64} (h : i36 x) (k : i36 y) : i36 (x ^^^ y) := by
  obtain ⟨a, ha, rfl⟩ := i36N h
  obtain ⟨b, hb, rfl⟩ := i36N k
  rw [show lN a ^^^ lN b = lN (a ^^^ b) from by
    apply Int64.toBitVec_inj.mp
    rw [Int64.toBitVec_xor, lNbv, lNbv, lNbv]
    apply BitVec.eq_of_toNat_eq
    rw [BitVec.toNat_xor, BitVec.toNat_ofNat, BitVec.toNat_ofNat, BitVec.toNat_ofNat, Nat.mod_eq_of_lt (show a < 2 ^ 64 by omega), Nat.mod_eq_of_lt (show b < 2 ^ 64 by omega), Nat.mod_eq_of_lt (Nat.xor_lt_two_pow (show a < 2 ^ 64 by omega) (show b < 2 ^ 64 by omega))]]
  exact lN36 (Nat.xor_lt_two_pow ha hb)
theorem andW36 {x y : Int64} (h : i36 x) (k : i36 y) : i36 (x &&& y) := by
  obtain ⟨a, ha, rfl⟩ := i36N h
  obtain ⟨b, hb, rfl⟩ := i36N k
  rw [show lN a &&& lN b = lN (a &&& b) from by
    apply Int64.toBitVec_inj.mp
    rw [Int64.toBitVec_and, lNbv, lNbv, lNbv]
    apply BitVec.eq_of_toNat_eq
    rw [BitVec.toNat_and, BitVec.toNat_ofNat, BitVec.toNat_ofNat, BitVec.toNat_ofNat, Nat.mod_eq_of_lt (show a < 2 ^ 64 by omega), Nat.mod_eq_of_lt (show b < 2 ^ 64 by omega), Nat.mod_eq_of_lt (Nat.and_lt_two_pow _ (show b < 2 ^ 64 by omega))]]
  exact lN36 (Nat.and_lt_two_pow _ hb)
theorem hereR (hI : iR u) (hC : RC u.2.2.2.2.2.2.2.2.1 D) (hP : RP u.2.2.2.2.2.2.2.2.2.1 G) (hT : RT u.2.2.2.1 P) :
    ∃ (x' : TS) (D' : TMD) (G' : TMG) (X' : TMX), x'.2.2.2 = dsc X'.1 X'.2 ∧ iS x' ∧ RC x'.2.1 D' ∧ RP x'.2.2.1 G' ∧ ((∃ q : Int64, i36 q ∧ fnX3_read u.2.2.2.2.2.2.2 u.2.2.2.2.2.1 0 = (q, x') ∧ fnX5_here (mk th u D G P (0, b1, b2) u.2.2.2.2.2.1 X 0) = (q, mk th (setS u x') D' G' P (0, b1, b2) u.2.2.2.2.2.1 X' 0)) ∨
      (∃ f, ift f ∧ fnX3_read u.2.2.2.2.2.2.2 u.2.2.2.2.2.1 0 = ((-1 - f).toInt64, x') ∧ fnX5_here (mk th u D G P (0, b1, b2) u.2.2.2.2.2.1 X 0) = (0, mk th (setS u x') D' G' P (f, u.2.2.2.2.2.1.1, u.2.2.2.2.2.1.2.1) u.2.2.2.2.2.1 X' 0))) :=
  readR (th := th) (u := u) (D := D) (G := G) (P := P) (b1 := b1) (b2 := b2) (E := u.2.2.2.2.2.1) (X := X) (J := 0) (y := u.2.2.2.2.2.1) hI.2.2.2.2.2.2.2 hC hP hI.2.2.2.2.2.1
theorem loadR1 (hI : iR u) (hC : RC u.2.2.2.2.2.2.2.2.1 D) (hP : RP u.2.2.2.2.2.2.2.2.2.1 G) (hT : RT u.2.2.2.1 P) : Fin2 th (fnX4_load u 1) (fnX5_reckon (mk th u D G P (0, b1, b2) u.2.2.2.2.2.1 X 0) 1) := by
  obtain ⟨x', D', G', X', h1, h2, h3, h4, h6⟩ := hereR (th := th) (b1 := b1) (b2 := b2) (X := X) hI hC hP hT
  unfold fnX4_load fnX5_reckon
  rcases h6 with ⟨q, hq, e1, e2⟩ | ⟨f, hf, e1, e2⟩
  · rw [e1, e2]
    dsimp only
    rw [if_pos (ge36 hq), if_pos (show (mk th (setS u x') D' G' P (0, b1, b2) u.2.2.2.2.2.1 X' 0).2.2.2.2.2.2.2.2.2.2.2.1.1 ≤ 0 from by show (0 : Int32) ≤ 0; decide)]
    rw [if_neg (show ¬ (1 : Int32) = 9 from by decide), if_neg (show ¬ (1 : Int32) = 10 from by decide), if_neg (show ¬ (1 : Int32) = 11 from by decide), if_neg (show ¬ (1 : Int32) = 12 from by decide), if_neg (show ¬ (1 : Int32) = 13 from by decide), if_neg (show ¬ (1 : Int32) = 14 from by decide), if_neg (show ¬ (1 : Int32) = 15 from by decide), if_pos rfl]
    unfold fnX4_combined
    rw [if_neg (show ¬ (1 : Int32) = 3 from by decide), if_neg (show ¬ (1 : Int32) = 4 from by decide), if_neg (show ¬ (1 : Int32) = 5 from by decide), if_neg (show ¬ (1 : Int32) = 6 from by decide), if_neg (show ¬ (1 : Int32) = 7 from by decide), if_neg (show ¬ (1 : Int32) = 8 from by decide)]
    rw [i36m hq]
    exact finA (u := ((q, u.1.2), u.2.1, u.2.2.1, u.2.2.2.1, u.2.2.2.2.1, u.2.2.2.2.2.1, u.2.2.2.2.2.2.1, x')) h3 h4 hT
  · rw [e1, e2]
    dsimp only
    rw [if_neg (ftN hf).2.1, (ftN hf).2.2, if_neg (show ¬ (mk th (setS u x') D' G' P (f, u.2.2.2.2.2.1.1, u.2.2.2.2.2.1.2.1) u.2.2.2.2.2.1 X' 0).2.2.2.2.2.2.2.2.2.2.2.1.1 ≤ 0 from (ftZ hf).2)]
    exact finFt (u := setS u x') hf h3 h4 hT
theorem loadR3 (hI : iR u) (hC : RC u.2.2.2.2.2.2.2.2.1 D) (hP : RP u.2.2.2.2.2.2.2.2.2.1 G) (hT : RT u.2.2.2.1 P) : Fin2 th (fnX4_load u 3) (fnX5_reckon (mk th u D G P (0, b1, b2) u.2.2.2.2.2.1 X 0) 3) := by
  obtain ⟨x', D', G', X', h1, h2, h3, h4, h6⟩ := hereR (th := th) (b1 := b1) (b2 := b2) (X := X) hI hC hP hT
  unfold fnX4_load fnX5_reckon
  rcases h6 with ⟨q, hq, e1, e2⟩ | ⟨f, hf, e1, e2⟩
  · rw [e1, e2]
    dsimp only
    rw [if_pos (ge36 hq), if_pos (show (mk th (setS u x') D' G' P (0, b1, b2) u.2.2.2.2.2.1 X' 0).2.2.2.2.2.2.2.2.2.2.2.1.1 ≤ 0 from by show (0 : Int32) ≤ 0; decide)]
    rw [if_neg (show ¬ (3 : Int32) = 9 from by decide), if_neg (show ¬ (3 : Int32) = 10 from by decide), if_neg (show ¬ (3 : Int32) = 11 from by decide), if_neg (show ¬ (3 : Int32) = 12 from by decide), if_neg (show ¬ (3 : Int32) = 13 from by decide), if_neg (show ¬ (3 : Int32) = 14 from by decide), if_neg (show ¬ (3 : Int32) = 15 from by decide), if_neg (show ¬ (3 : Int32) = 1 from by decide), if_neg (show ¬ (3 : Int32) = 2 from by decide), if_pos rfl]
    unfold fnX4_combined
    rw [if_pos rfl]
    exact finA (u := (((u.1.1 + q) &&& 68719476735, u.1.2), u.2.1, u.2.2.1, u.2.2.2.1, u.2.2.2.2.1, u.2.2.2.2.2.1, u.2.2.2.2.2.2.1, x')) h3 h4 hT
  · rw [e1, e2]
    dsimp only
    rw [if_neg (ftN hf).2.1, (ftN hf).2.2, if_neg (show ¬ (mk th (setS u x') D' G' P (f, u.2.2.2.2.2.1.1, u.2.2.2.2.2.1.2.1) u.2.2.2.2.2.1 X' 0).2.2.2.2.2.2.2.2.2.2.2.1.1 ≤ 0 from (ftZ hf).2)]
    exact finFt (u := setS u x') hf h3 h4 hT
theorem loadR4 (hI : iR u) (hC : RC u.2.2.2.2.2.2.2.2.1 D) (hP : RP u.2.2.2.2.2.2.2.2.2.1 G) (hT : RT u.2.2.2.1 P) : Fin2 th (fnX4_load u 4) (fnX5_reckon (mk th u D G P (0, b1, b2) u.2.2.2.2.2.1 X 0) 4) := by
  obtain ⟨x', D', G', X', h1, h2, h3, h4, h6⟩ := hereR (th := th) (b1 := b1) (b2 := b2) (X := X) hI hC hP hT
  unfold fnX4_load fnX5_reckon
  rcases h6 with ⟨q, hq, e1, e2⟩ | ⟨f, hf, e1, e2⟩
  · rw [e1, e2]
    dsimp only
    rw [if_pos (ge36 hq), if_pos (show (mk th (setS u x') D' G' P (0, b1, b2) u.2.2.2.2.2.1 X' 0).2.2.2.2.2.2.2.2.2.2.2.1.1 ≤ 0 from by show (0 : Int32) ≤ 0; decide)]
    rw [if_neg (show ¬ (4 : Int32) = 9 from by decide), if_neg (show ¬ (4 : Int32) = 10 from by decide), if_neg (show ¬ (4 : Int32) = 11 from by decide), if_neg (show ¬ (4 : Int32) = 12 from by decide), if_neg (show ¬ (4 : Int32) = 13 from by decide), if_neg (show ¬ (4 : Int32) = 14 from by decide), if_neg (show ¬ (4 : Int32) = 15 from by decide), if_neg (show ¬ (4 : Int32) = 1 from by decide), if_neg (show ¬ (4 : Int32) = 2 from by decide), if_neg (show ¬ (4 : Int32) = 3 from by decide), if_pos rfl]
    unfold fnX4_combined
    rw [if_neg (show ¬ (4 : Int32) = 3 from by decide), if_pos rfl]
    exact finA (u := (((u.1.1 - q) &&& 68719476735, u.1.2), u.2.1, u.2.2.1, u.2.2.2.1, u.2.2.2.2.1, u.2.2.2.2.2.1, u.2.2.2.2.2.2.1, x')) h3 h4 hT
  · rw [e1, e2]
    dsimp only
    rw [if_neg (ftN hf).2.1, (ftN hf).2.2, if_neg (show ¬ (mk th (setS u x') D' G' P (f, u.2.2.2.2.2.1.1, u.2.2.2.2.2.1.2.1) u.2.2.2.2.2.1 X' 0).2.2.2.2.2.2.2.2.2.2.2.1.1 ≤ 0 from (ftZ hf).2)]
    exact finFt (u := setS u x') hf h3 h4 hT
theorem loadR5 (hI : iR u) (hC : RC u.2.2.2.2.2.2.2.2.1 D) (hP : RP u.2.2.2.2.2.2.2.2.2.1 G) (hT : RT u.2.2.2.1 P) : Fin2 th (fnX4_load u 5) (fnX5_reckon (mk th u D G P (0, b1, b2) u.2.2.2.2.2.1 X 0) 5) := by
  obtain ⟨x', D', G', X', h1, h2, h3, h4, h6⟩ := hereR (th := th) (b1 := b1) (b2 := b2) (X := X) hI hC hP hT
  unfold fnX4_load fnX5_reckon
  rcases h6 with ⟨q, hq, e1, e2⟩ | ⟨f, hf, e1, e2⟩
  · rw [e1, e2]
    dsimp only
    rw [if_pos (ge36 hq), if_pos (show (mk th (setS u x') D' G' P (0, b1, b2) u.2.2.2.2.2.1 X' 0).2.2.2.2.2.2.2.2.2.2.2.1.1 ≤ 0 from by show (0 : Int32) ≤ 0; decide)]
    rw [if_neg (show ¬ (5 : Int32) = 9 from by decide), if_neg (show ¬ (5 : Int32) = 10 from by decide), if_neg (show ¬ (5 : Int32) = 11 from by decide), if_neg (show ¬ (5 : Int32) = 12 from by decide), if_neg (show ¬ (5 : Int32) = 13 from by decide), if_neg (show ¬ (5 : Int32) = 14 from by decide), if_neg (show ¬ (5 : Int32) = 15 from by decide), if_neg (show ¬ (5 : Int32) = 1 from by decide), if_neg (show ¬ (5 : Int32) = 2 from by decide), if_neg (show ¬ (5 : Int32) = 3 from by decide), if_neg (show ¬ (5 : Int32) = 4 from by decide), if_pos rfl]
    unfold fnX4_combined
    rw [if_neg (show ¬ (5 : Int32) = 3 from by decide), if_neg (show ¬ (5 : Int32) = 4 from by decide), if_pos rfl]
    exact finA (u := (((u.1.1 * q) &&& 68719476735, u.1.2), u.2.1, u.2.2.1, u.2.2.2.1, u.2.2.2.2.1, u.2.2.2.2.2.1, u.2.2.2.2.2.2.1, x')) h3 h4 hT
  · rw [e1, e2]
    dsimp only
    rw [if_neg (ftN hf).2.1, (ftN hf).2.2, if_neg (show ¬ (mk th (setS u x') D' G' P (f, u.2.2.2.2.2.1.1, u.2.2.2.2.2.1.2.1) u.2.2.2.2.2.1 X' 0).2.2.2.2.2.2.2.2.2.2.2.1.1 ≤ 0 from (ftZ hf).2)]
    exact finFt (u := setS u x') hf h3 h4 hT
theorem loadR6 (hI : iR u) (hC : RC u.2.2.2.2.2.2.2.2.1 D) (hP : RP u.2.2.2.2.2.2.2.2.2.1 G) (hT : RT u.2.2.2.1 P) : Fin2 th (fnX4_load u 6) (fnX5_reckon (mk th u D G P (0, b1, b2) u.2.2.2.2.2.1 X 0) 6) := by
  obtain ⟨x', D', G', X', h1, h2, h3, h4, h6⟩ := hereR (th := th) (b1 := b1) (b2 := b2) (X := X) hI hC hP hT
  unfold fnX4_load fnX5_reckon
  rcases h6 with ⟨q, hq, e1, e2⟩ | ⟨f, hf, e1, e2⟩
  · rw [e1, e2]
    dsimp only
    rw [if_pos (ge36 hq), if_pos (show (mk th (setS u x') D' G' P (0, b1, b2) u.2.2.2.2.2.1 X' 0).2.2.2.2.2.2.2.2.2.2.2.1.1 ≤ 0 from by show (0 : Int32) ≤ 0; decide)]
    rw [if_neg (show ¬ (6 : Int32) = 9 from by decide), if_neg (show ¬ (6 : Int32) = 10 from by decide), if_neg (show ¬ (6 : Int32) = 11 from by decide), if_neg (show ¬ (6 : Int32) = 12 from by decide), if_neg (show ¬ (6 : Int32) = 13 from by decide), if_neg (show ¬ (6 : Int32) = 14 from by decide), if_neg (show ¬ (6 : Int32) = 15 from by decide), if_neg (show ¬ (6 : Int32) = 1 from by decide), if_neg (show ¬ (6 : Int32) = 2 from by decide), if_neg (show ¬ (6 : Int32) = 3 from by decide), if_neg (show ¬ (6 : Int32) = 4 from by decide), if_neg (show ¬ (6 : Int32) = 5 from by decide), if_pos rfl]
    unfold fnX4_combined
    rw [if_neg (show ¬ (6 : Int32) = 3 from by decide), if_neg (show ¬ (6 : Int32) = 4 from by decide), if_neg (show ¬ (6 : Int32) = 5 from by decide), if_pos rfl]
    rw [i36m (andW36 hI.1.1 hq)]
    exact finA (u := ((u.1.1 &&& q, u.1.2), u.2.1, u.2.2.1, u.2.2.2.1, u.2.2.2.2.1, u.2.2.2.2.2.1, u.2.2.2.2.2.2.1, x')) h3 h4 hT
  · rw [e1, e2]
    dsimp only
    rw [if_neg (ftN hf).2.1, (ftN hf).2.2, if_neg (show ¬ (mk th (setS u x') D' G' P (f, u.2.2.2.2.2.1.1, u.2.2.2.2.2.1.2.1) u.2.2.2.2.2.1 X' 0).2.2.2.2.2.2.2.2.2.2.2.1.1 ≤ 0 from (ftZ hf).2)]
    exact finFt (u := setS u x') hf h3 h4 hT
theorem loadR7 (hI : iR u) (hC : RC u.2.2.2.2.2.2.2.2.1 D) (hP : RP u.2.2.2.2.2.2.2.2.2.1 G) (hT : RT u.2.2.2.1 P) : Fin2 th (fnX4_load u 7) (fnX5_reckon (mk th u D G P (0, b1, b2) u.2.2.2.2.2.1 X 0) 7) := by
  obtain ⟨x', D', G', X', h1, h2, h3, h4, h6⟩ := hereR (th := th) (b1 := b1) (b2 := b2) (X := X) hI hC hP hT
  unfold fnX4_load fnX5_reckon
  rcases h6 with ⟨q, hq, e1, e2⟩ | ⟨f, hf, e1, e2⟩
  · rw [e1, e2]
    dsimp only
    rw [if_pos (ge36 hq), if_pos (show (mk th (setS u x') D' G' P (0, b1, b2) u.2.2.2.2.2.1 X' 0).2.2.2.2.2.2.2.2.2.2.2.1.1 ≤ 0 from by show (0 : Int32) ≤ 0; decide)]
    rw [if_neg (show ¬ (7 : Int32) = 9 from by decide), if_neg (show ¬ (7 : Int32) = 10 from by decide), if_neg (show ¬ (7 : Int32) = 11 from by decide), if_neg (show ¬ (7 : Int32) = 12 from by decide), if_neg (show ¬ (7 : Int32) = 13 from by decide), if_neg (show ¬ (7 : Int32) = 14 from by decide), if_neg (show ¬ (7 : Int32) = 15 from by decide), if_neg (show ¬ (7 : Int32) = 1 from by decide), if_neg (show ¬ (7 : Int32) = 2 from by decide), if_neg (show ¬ (7 : Int32) = 3 from by decide), if_neg (show ¬ (7 : Int32) = 4 from by decide), if_neg (show ¬ (7 : Int32) = 5 from by decide), if_neg (show ¬ (7 : Int32) = 6 from by decide), if_pos rfl]
    unfold fnX4_combined
    rw [if_neg (show ¬ (7 : Int32) = 3 from by decide), if_neg (show ¬ (7 : Int32) = 4 from by decide), if_neg (show ¬ (7 : Int32) = 5 from by decide), if_neg (show ¬ (7 : Int32) = 6 from by decide), if_pos rfl]
    rw [i36m (orW hI.1.1 hq)]
    exact finA (u := ((u.1.1 ||| q, u.1.2), u.2.1, u.2.2.1, u.2.2.2.1, u.2.2.2.2.1, u.2.2.2.2.2.1, u.2.2.2.2.2.2.1, x')) h3 h4 hT
  · rw [e1, e2]
    dsimp only
    rw [if_neg (ftN hf).2.1, (ftN hf).2.2, if_neg (show ¬ (mk th (setS u x') D' G' P (f, u.2.2.2.2.2.1.1, u.2.2.2.2.2.1.2.1) u.2.2.2.2.2.1 X' 0).2.2.2.2.2.2.2.2.2.2.2.1.1 ≤ 0 from (ftZ hf).2)]
    exact finFt (u := setS u x') hf h3 h4 hT
theorem loadR8 (hI : iR u) (hC : RC u.2.2.2.2.2.2.2.2.1 D) (hP : RP u.2.2.2.2.2.2.2.2.2.1 G) (hT : RT u.2.2.2.1 P) : Fin2 th (fnX4_load u 8) (fnX5_reckon (mk th u D G P (0, b1, b2) u.2.2.2.2.2.1 X 0) 8) := by
  obtain ⟨x', D', G', X', h1, h2, h3, h4, h6⟩ := hereR (th := th) (b1 := b1) (b2 := b2) (X := X) hI hC hP hT
  unfold fnX4_load fnX5_reckon
  rcases h6 with ⟨q, hq, e1, e2⟩ | ⟨f, hf, e1, e2⟩
  · rw [e1, e2]
    dsimp only
    rw [if_pos (ge36 hq), if_pos (show (mk th (setS u x') D' G' P (0, b1, b2) u.2.2.2.2.2.1 X' 0).2.2.2.2.2.2.2.2.2.2.2.1.1 ≤ 0 from by show (0 : Int32) ≤ 0; decide)]
    rw [if_neg (show ¬ (8 : Int32) = 9 from by decide), if_neg (show ¬ (8 : Int32) = 10 from by decide), if_neg (show ¬ (8 : Int32) = 11 from by decide), if_neg (show ¬ (8 : Int32) = 12 from by decide), if_neg (show ¬ (8 : Int32) = 13 from by decide), if_neg (show ¬ (8 : Int32) = 14 from by decide), if_neg (show ¬ (8 : Int32) = 15 from by decide), if_neg (show ¬ (8 : Int32) = 1 from by decide), if_neg (show ¬ (8 : Int32) = 2 from by decide), if_neg (show ¬ (8 : Int32) = 3 from by decide), if_neg (show ¬ (8 : Int32) = 4 from by decide), if_neg (show ¬ (8 : Int32) = 5 from by decide), if_neg (show ¬ (8 : Int32) = 6 from by decide), if_neg (show ¬ (8 : Int32) = 7 from by decide), if_pos rfl]
    unfold fnX4_combined
    rw [if_neg (show ¬ (8 : Int32) = 3 from by decide), if_neg (show ¬ (8 : Int32) = 4 from by decide), if_neg (show ¬ (8 : Int32) = 5 from by decide), if_neg (show ¬ (8 : Int32) = 6 from by decide), if_neg (show ¬ (8 : Int32) = 7 from by decide), if_pos rfl]
    rw [i36m (xorW hI.1.1 hq)]
    exact finA (u := ((u.1.1 ^^^ q, u.1.2), u.2.1, u.2.2.1, u.2.2.2.1, u.2.2.2.2.1, u.2.2.2.2.2.1, u.2.2.2.2.2.2.1, x')) h3 h4 hT
  · rw [e1, e2]
    dsimp only
    rw [if_neg (ftN hf).2.1, (ftN hf).2.2, if_neg (show ¬ (mk th (setS u x') D' G' P (f, u.2.2.2.2.2.1.1, u.2.2.2.2.2.1.2.1) u.2.2.2.2.2.1 X' 0).2.2.2.2.2.2.2.2.2.2.2.1.1 ≤ 0 from (ftZ hf).2)]
    exact finFt (u := setS u x') hf h3 h4 hT
theorem loadR9 (hI : iR u) (hC : RC u.2.2.2.2.2.2.2.2.1 D) (hP : RP u.2.2.2.2.2.2.2.2.2.1 G) (hT : RT u.2.2.2.1 P) : Fin2 th (fnX4_load u 9) (fnX5_reckon (mk th u D G P (0, b1, b2) u.2.2.2.2.2.1 X 0) 9) := by
  obtain ⟨x', D', G', X', h1, h2, h3, h4, h6⟩ := hereR (th := th) (b1 := b1) (b2 := b2) (X := X) hI hC hP hT
  unfold fnX4_load fnX5_reckon
  rcases h6 with ⟨q, hq, e1, e2⟩ | ⟨f, hf, e1, e2⟩
  · rw [e1, e2]
    dsimp only
    rw [if_pos (ge36 hq), if_pos (show (mk th (setS u x') D' G' P (0, b1, b2) u.2.2.2.2.2.1 X' 0).2.2.2.2.2.2.2.2.2.2.2.1.1 ≤ 0 from by show (0 : Int32) ≤ 0; decide)]
    rw [if_pos rfl, if_neg (show ¬ (9 : Int32) = 1 from by decide), if_neg (show ¬ (9 : Int32) = 2 from by decide), if_neg (show ¬ (9 : Int32) = 3 from by decide), if_neg (show ¬ (9 : Int32) = 4 from by decide), if_neg (show ¬ (9 : Int32) = 5 from by decide), if_neg (show ¬ (9 : Int32) = 6 from by decide), if_neg (show ¬ (9 : Int32) = 7 from by decide), if_neg (show ¬ (9 : Int32) = 8 from by decide)]
    exact finA (u := ((u.1.1, q), u.2.1, u.2.2.1, u.2.2.2.1, u.2.2.2.2.1, u.2.2.2.2.2.1, u.2.2.2.2.2.2.1, x')) h3 h4 hT
  · rw [e1, e2]
    dsimp only
    rw [if_neg (ftN hf).2.1, (ftN hf).2.2, if_neg (show ¬ (mk th (setS u x') D' G' P (f, u.2.2.2.2.2.1.1, u.2.2.2.2.2.1.2.1) u.2.2.2.2.2.1 X' 0).2.2.2.2.2.2.2.2.2.2.2.1.1 ≤ 0 from (ftZ hf).2)]
    exact finFt (u := setS u x') hf h3 h4 hT
theorem ldxR12 (hI : iR u) (hC : RC u.2.2.2.2.2.2.2.2.1 D) (hP : RP u.2.2.2.2.2.2.2.2.2.1 G) (hT : RT u.2.2.2.1 P) : Fin2 th (fnX4_load u 12) (fnX5_act (mk th u D G P (0, b1, b2) u.2.2.2.2.2.1 X 0) 12) := by
  obtain ⟨x', D', G', X', h1, h2, h3, h4, h6⟩ := hereR (th := th) (b1 := b1) (b2 := b2) (X := X) hI hC hP hT
  unfold fnX4_load fnX5_act
  rw [if_pos (show (11 : Int32) ≤ 12 from by decide), if_neg (show ¬ (12 : Int32) = 2 from by decide), if_neg (show ¬ (12 : Int32) = 10 from by decide), if_neg (show ¬ (12 : Int32) = 11 from by decide), if_neg (show ¬ (16 : Int32) ≤ 12 from by decide)]
  rcases h6 with ⟨q, hq, e1, e2⟩ | ⟨f, hf, e1, e2⟩
  · rw [e1, e2]
    dsimp only
    rw [if_pos (ge36 hq), if_pos (show (mk th (setS u x') D' G' P (0, b1, b2) u.2.2.2.2.2.1 X' 0).2.2.2.2.2.2.2.2.2.2.2.1.1 ≤ 0 from by show (0 : Int32) ≤ 0; decide)]
    rw [if_neg (show ¬ (12 : Int32) = 9 from by decide), if_neg (show ¬ (12 : Int32) = 10 from by decide), if_neg (show ¬ (12 : Int32) = 11 from by decide), if_pos rfl, ← b012]
    exact finA (u := (u.1, u.2.1, upd u.2.2.1 ((12 : Int32) &&& 3).toNatClampNeg (fnX5_bits q 0 12), u.2.2.2.1, u.2.2.2.2.1, u.2.2.2.2.2.1, u.2.2.2.2.2.2.1, x')) h3 h4 hT
  · rw [e1, e2]
    dsimp only
    rw [if_neg (ftN hf).2.1, (ftN hf).2.2, if_neg (show ¬ (mk th (setS u x') D' G' P (f, u.2.2.2.2.2.1.1, u.2.2.2.2.2.1.2.1) u.2.2.2.2.2.1 X' 0).2.2.2.2.2.2.2.2.2.2.2.1.1 ≤ 0 from (ftZ hf).2), updI]
    exact finFt (u := setS u x') hf h3 h4 hT
theorem ldxR13 (hI : iR u) (hC : RC u.2.2.2.2.2.2.2.2.1 D) (hP : RP u.2.2.2.2.2.2.2.2.2.1 G) (hT : RT u.2.2.2.1 P) : Fin2 th (fnX4_load u 13) (fnX5_act (mk th u D G P (0, b1, b2) u.2.2.2.2.2.1 X 0) 13) := by
  obtain ⟨x', D', G', X', h1, h2, h3, h4, h6⟩ := hereR (th := th) (b1 := b1) (b2 := b2) (X := X) hI hC hP hT
  unfold fnX4_load fnX5_act
  rw [if_pos (show (11 : Int32) ≤ 13 from by decide), if_neg (show ¬ (13 : Int32) = 2 from by decide), if_neg (show ¬ (13 : Int32) = 10 from by decide), if_neg (show ¬ (13 : Int32) = 11 from by decide), if_neg (show ¬ (16 : Int32) ≤ 13 from by decide)]
  rcases h6 with ⟨q, hq, e1, e2⟩ | ⟨f, hf, e1, e2⟩
  · rw [e1, e2]
    dsimp only
    rw [if_pos (ge36 hq), if_pos (show (mk th (setS u x') D' G' P (0, b1, b2) u.2.2.2.2.2.1 X' 0).2.2.2.2.2.2.2.2.2.2.2.1.1 ≤ 0 from by show (0 : Int32) ≤ 0; decide)]
    rw [if_neg (show ¬ (13 : Int32) = 9 from by decide), if_neg (show ¬ (13 : Int32) = 10 from by decide), if_neg (show ¬ (13 : Int32) = 11 from by decide), if_neg (show ¬ (13 : Int32) = 12 from by decide), if_pos rfl, ← b012]
    exact finA (u := (u.1, u.2.1, upd u.2.2.1 ((13 : Int32) &&& 3).toNatClampNeg (fnX5_bits q 0 12), u.2.2.2.1, u.2.2.2.2.1, u.2.2.2.2.2.1, u.2.2.2.2.2.2.1, x')) h3 h4 hT
  · rw [e1, e2]
    dsimp only
    rw [if_neg (ftN hf).2.1, (ftN hf).2.2, if_neg (show ¬ (mk th (setS u x') D' G' P (f, u.2.2.2.2.2.1.1, u.2.2.2.2.2.1.2.1) u.2.2.2.2.2.1 X' 0).2.2.2.2.2.2.2.2.2.2.2.1.1 ≤ 0 from (ftZ hf).2), updI]
    exact finFt (u := setS u x') hf h3 h4 hT
theorem ldxR14 (hI : iR u) (hC : RC u.2.2.2.2.2.2.2.2.1 D) (hP : RP u.2.2.2.2.2.2.2.2.2.1 G) (hT : RT u.2.2.2.1 P) : Fin2 th (fnX4_load u 14) (fnX5_act (mk th u D G P (0, b1, b2) u.2.2.2.2.2.1 X 0) 14) := by
  obtain ⟨x', D', G', X', h1, h2, h3, h4, h6⟩ := hereR (th := th) (b1 := b1) (b2 := b2) (X := X) hI hC hP hT
  unfold fnX4_load fnX5_act
  rw [if_pos (show (11 : Int32) ≤ 14 from by decide), if_neg (show ¬ (14 : Int32) = 2 from by decide), if_neg (show ¬ (14 : Int32) = 10 from by decide), if_neg (show ¬ (14 : Int32) = 11 from by decide), if_neg (show ¬ (16 : Int32) ≤ 14 from by decide)]
  rcases h6 with ⟨q, hq, e1, e2⟩ | ⟨f, hf, e1, e2⟩
  · rw [e1, e2]
    dsimp only
    rw [if_pos (ge36 hq), if_pos (show (mk th (setS u x') D' G' P (0, b1, b2) u.2.2.2.2.2.1 X' 0).2.2.2.2.2.2.2.2.2.2.2.1.1 ≤ 0 from by show (0 : Int32) ≤ 0; decide)]
    rw [if_neg (show ¬ (14 : Int32) = 9 from by decide), if_neg (show ¬ (14 : Int32) = 10 from by decide), if_neg (show ¬ (14 : Int32) = 11 from by decide), if_neg (show ¬ (14 : Int32) = 12 from by decide), if_neg (show ¬ (14 : Int32) = 13 from by decide), if_pos rfl, ← b012]
    exact finA (u := (u.1, u.2.1, upd u.2.2.1 ((14 : Int32) &&& 3).toNatClampNeg (fnX5_bits q 0 12), u.2.2.2.1, u.2.2.2.2.1, u.2.2.2.2.2.1, u.2.2.2.2.2.2.1, x')) h3 h4 hT
  · rw [e1, e2]
    dsimp only
    rw [if_neg (ftN hf).2.1, (ftN hf).2.2, if_neg (show ¬ (mk th (setS u x') D' G' P (f, u.2.2.2.2.2.1.1, u.2.2.2.2.2.1.2.1) u.2.2.2.2.2.1 X' 0).2.2.2.2.2.2.2.2.2.2.2.1.1 ≤ 0 from (ftZ hf).2), updI]
    exact finFt (u := setS u x') hf h3 h4 hT
theorem ldxR15 (hI : iR u) (hC : RC u.2.2.2.2.2.2.2.2.1 D) (hP : RP u.2.2.2.2.2.2.2.2.2.1 G) (hT : RT u.2.2.2.1 P) : Fin2 th (fnX4_load u 15) (fnX5_act (mk th u D G P (0, b1, b2) u.2.2.2.2.2.1 X 0) 15) := by
  obtain ⟨x', D', G', X', h1, h2, h3, h4, h6⟩ := hereR (th := th) (b1 := b1) (b2 := b2) (X := X) hI hC hP hT
  unfold fnX4_load fnX5_act
  rw [if_pos (show (11 : Int32) ≤ 15 from by decide), if_neg (show ¬ (15 : Int32) = 2 from by decide), if_neg (show ¬ (15 : Int32) = 10 from by decide), if_neg (show ¬ (15 : Int32) = 11 from by decide), if_neg (show ¬ (16 : Int32) ≤ 15 from by decide)]
  rcases h6 with ⟨q, hq, e1, e2⟩ | ⟨f, hf, e1, e2⟩
  · rw [e1, e2]
    dsimp only
    rw [if_pos (ge36 hq), if_pos (show (mk th (setS u x') D' G' P (0, b1, b2) u.2.2.2.2.2.1 X' 0).2.2.2.2.2.2.2.2.2.2.2.1.1 ≤ 0 from by show (0 : Int32) ≤ 0; decide)]
    rw [if_neg (show ¬ (15 : Int32) = 9 from by decide), if_neg (show ¬ (15 : Int32) = 10 from by decide), if_neg (show ¬ (15 : Int32) = 11 from by decide), if_neg (show ¬ (15 : Int32) = 12 from by decide), if_neg (show ¬ (15 : Int32) = 13 from by decide), if_neg (show ¬ (15 : Int32) = 14 from by decide), if_pos rfl, ← b012]
    exact finA (u := (u.1, u.2.1, upd u.2.2.1 ((15 : Int32) &&& 3).toNatClampNeg (fnX5_bits q 0 12), u.2.2.2.1, u.2.2.2.2.1, u.2.2.2.2.2.1, u.2.2.2.2.2.2.1, x')) h3 h4 hT
  · rw [e1, e2]
    dsimp only
    rw [if_neg (ftN hf).2.1, (ftN hf).2.2, if_neg (show ¬ (mk th (setS u x') D' G' P (f, u.2.2.2.2.2.1.1, u.2.2.2.2.2.1.2.1) u.2.2.2.2.2.1 X' 0).2.2.2.2.2.2.2.2.2.2.2.1.1 ≤ 0 from (ftZ hf).2), updI]
    exact finFt (u := setS u x') hf h3 h4 hT
theorem putR {q q' : Int64} (hI : iR u) (hC : RC u.2.2.2.2.2.2.2.2.1 D) (hP : RP u.2.2.2.2.2.2.2.2.2.1 G) (hT : RT u.2.2.2.1 P) (hq : q' &&& 68719476735 = q) (h36 : i36 q) : Fin2 th (fnX4_put u q) (fnX5_write (mk th u D G P (0, b1, b2) u.2.2.2.2.2.1 X 0) q') := by
  obtain ⟨x', D', G', X', h2, h3, h4, h6⟩ := writeR (th := th) (P := P) (b1 := b1) (b2 := b2) (X := X) (J := 0) (y := u.2.2.2.2.2.1) hI.2.2.2.2.2.2.2 hC hP hI.2.2.2.2.2.1 hq h36
  unfold fnX4_put
  rcases h6 with ⟨e1, e2⟩ | ⟨f, hf, e1, e2⟩
  · rw [e1, e2]
    dsimp only
    rw [if_pos rfl]
    exact finA (u := setS u x') h3 h4 hT
  · rw [e1, e2]
    dsimp only
    rw [if_neg (ftZ hf).1]
    exact finFt (u := setS u x') hf h3 h4 hT
theorem addR (hI : iR u) (hC : RC u.2.2.2.2.2.2.2.2.1 D) (hP : RP u.2.2.2.2.2.2.2.2.2.1 G) (hT : RT u.2.2.2.1 P) : Fin2 th (fnX4_addOne u) (fnX5_act (mk th u D G P (0, b1, b2) u.2.2.2.2.2.1 X 0) 11) := by
  obtain ⟨x', D', G', X', h1, h2, h3, h4, h6⟩ := hereR (th := th) (b1 := b1) (b2 := b2) (X := X) hI hC hP hT
  unfold fnX4_addOne fnX5_act
  rw [if_pos (show (11 : Int32) ≤ 11 from by decide), if_neg (show ¬ (11 : Int32) = 2 from by decide), if_neg (show ¬ (11 : Int32) = 10 from by decide), if_pos rfl]
  rcases h6 with ⟨q, hq, e1, e2⟩ | ⟨f, hf, e1, e2⟩
  · rw [e1, e2]
    dsimp only
    rw [if_pos (ge36 hq)]
    obtain ⟨y', D2, G2, X2, g2, g3, g4, g6⟩ := writeR (th := th) (u := setS u x') (P := P) (b1 := b1) (b2 := b2) (X := X') (J := 0) (y := u.2.2.2.2.2.1) (q := (q + 1) &&& 68719476735) (q' := q + 1) h2 h3 h4 hI.2.2.2.2.2.1 rfl (mkW _)
    rcases g6 with ⟨f1, f2⟩ | ⟨f, hf, f1, f2⟩
    · rw [show fnX3_write x' u.2.2.2.2.2.1 ((q + 1) &&& 68719476735) = _ from f1, f2]
      dsimp only
      rw [if_pos rfl]
      exact finA (u := setS u y') g3 g4 hT
    · rw [show fnX3_write x' u.2.2.2.2.2.1 ((q + 1) &&& 68719476735) = _ from f1, f2]
      dsimp only
      rw [if_neg (ftZ hf).1]
      exact finFt (u := setS u y') hf g3 g4 hT
  · rw [e1, e2]
    dsimp only
    rw [if_neg (ftN hf).2.1, (ftN hf).2.2]
    unfold fnX5_write fnX5_place
    rw [if_neg (show ¬ (mk th (setS u x') D' G' P (f, u.2.2.2.2.2.1.1, u.2.2.2.2.2.1.2.1) u.2.2.2.2.2.1 X' 0).2.2.2.2.2.2.2.2.2.2.2.1.1 ≤ 0 from (ftZ hf).2)]
    dsimp only
    rw [if_neg (show ¬ (0 : Int32) ≤ -1 from by decide)]
    exact finFt (u := setS u x') hf h3 h4 hT
theorem jumpR (hC : RC u.2.2.2.2.2.2.2.2.1 D) (hP : RP u.2.2.2.2.2.2.2.2.2.1 G) (hT : RT u.2.2.2.1 P) : Fin2 th (fnX4_transfer u 1) (fnX5_jump (mk th u D G P (0, b1, b2) u.2.2.2.2.2.1 X 0)) := by
  unfold fnX4_transfer fnX5_jump
  rw [if_neg (show ¬ (1 : Int32) = 0 from by decide)]
  by_cases h : u.2.2.2.2.2.1.2.2 = u.2.2.2.2.1.2.2
  · rw [if_pos h, if_pos (show (mk th u D G P (0, b1, b2) u.2.2.2.2.2.1 X 0).2.2.2.2.2.2.2.2.2.2.2.2.1.2.2 = (mk th u D G P (0, b1, b2) u.2.2.2.2.2.1 X 0).2.2.2.2.2.2.2.1.2.2 from h)]
    have e : (fnX2_become u.2.2.2.2.1 u.2.2.2.2.2.1) = (u.2.2.2.2.2.1.1, u.2.2.2.2.2.1.2.1, u.2.2.2.2.1.2.2) := by rw [← h]; rfl
    dsimp only
    rw [e]
    exact finJ (u := (u.1, u.2.1, u.2.2.1, u.2.2.2.1, (u.2.2.2.2.2.1.1, u.2.2.2.2.2.1.2.1, u.2.2.2.2.1.2.2), u.2.2.2.2.2.1, u.2.2.2.2.2.2.1, u.2.2.2.2.2.2.2)) hC hP hT
  · rw [if_neg h, if_neg (show ¬ (mk th u D G P (0, b1, b2) u.2.2.2.2.2.1 X 0).2.2.2.2.2.2.2.2.2.2.2.2.1.2.2 = (mk th u D G P (0, b1, b2) u.2.2.2.2.2.1 X 0).2.2.2.2.2.2.2.1.2.2 from h)]
    dsimp only
    rw [wrongH]
    exact finF (f := 5) (by decide) (by decide) hC hP hT
end
