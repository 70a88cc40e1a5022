/-! addresses, both sides -/
def RT (ps : T4) (P : TMP) : Prop := ps.1 = (P.1 0, P.2.1 0, P.2.2 0) ∧ ps.2.1 = (P.1 1, P.2.1 1, P.2.2 1) ∧ ps.2.2.1 = (P.1 2, P.2.1 2, P.2.2 2) ∧ ps.2.2.2 = (P.1 3, P.2.1 3, P.2.2 3)
def setT (u : TR) (t : TP) : TR := (u.1, u.2.1, u.2.2.1, u.2.2.2.1, u.2.2.2.2.1, t, u.2.2.2.2.2.2.1, u.2.2.2.2.2.2.2)
theorem grE (a b : Int32) : fnX5_greater a b = if a < b then b else a := by
  unfold fnX5_greater
  by_cases h : a < b
  · rw [if_pos h, if_pos (leI (Int.le_of_lt (ltJ h)))]
  · rw [if_neg h]
    by_cases g : a ≤ b
    · rw [if_pos g]
      exact Int32.toInt_inj.mp (by have := leJ g; have := nltJ h; omega)
    · rw [if_neg g]
theorem m4 (a b : Int32) : ((a &&& 4095) + b) &&& 4095 = (a + b) &&& 4095 := by
  rw [pk_and (a + b) 12 (by decide), pk_and ((a &&& 4095) + b) 12 (by decide), pk_and a 12 (by decide)]
  congr 1
  rw [Int32.toBitVec_add, Int32.toBitVec_add, BitVec.toNat_add, BitVec.toNat_add, pk_tn (by omega)]
  omega
theorem m0 (a : Int32) : (a &&& 4095) &&& 4095 = a &&& 4095 := by
  have h := m4 a 0
  rw [Int32.add_zero, Int32.add_zero] at h
  exact h
theorem b2i (w : Int64) (b : Int32) : i2 (fnX5_bits w b 2) := by
  unfold fnX5_bits; rw [show ((1 : Int32) <<< ((2 : Int32) &&& 31)) - 1 = 3 from by decide]; exact mk2 _
theorem bm (w : Int64) : fnX5_bits w 0 12 &&& 4095 = fnX5_bits w 0 12 := by rw [b012, m0]
theorem gt2 {x : Int32} (h : i2 x) (k : ¬ x = 0) : ¬ x ≤ 0 := by
  rcases c4 h with rfl | rfl | rfl | rfl
  · exact absurd rfl k
  · decide
  · decide
  · decide
theorem sum3 (a b c : Int32) : fnX4_sum (fnX4_sum a b) c = (a + b + c) &&& 4095 := m4 _ _
theorem startR {th : Int32} {u : TR} {D : TMD} {G : TMG} {P : TMP} {B : TMB} {E : TMQ} {X : TMX} {J : Int32} {w : Int64} (hT : RT u.2.2.2.1 P) :
    ∃ t : TP, fnX4_startAddress u w = setT u t ∧ fnX5_address (mk th u D G P B E X J) w = lpX5_address 6 0 (if w &&& 67108864 = 0 then 0 else 1) (mk th u D G P B t X J) := by
  have key : ∀ v : TM, (if fnX5_bits w 26 1 = 1 then lpX5_address 6 0 1 v else lpX5_address 6 0 0 v) = lpX5_address 6 0 (if w &&& 67108864 = 0 then 0 else 1) v := by
    intro v
    by_cases h : w &&& 67108864 = 0
    · rw [if_neg (fun z => (bt1 (M := 67108864) 26 (by decide) (by decide) (by decide)).mp z h), if_pos h]
    · rw [if_pos ((bt1 (M := 67108864) 26 (by decide) (by decide) (by decide)).mpr h), if_neg h]
  obtain ⟨t1, t2, t3, t4⟩ := hT
  unfold fnX4_startAddress fnX5_address
  dsimp only
  by_cases hp : w &&& 536870912 = 0
  · rw [if_pos hp, if_neg (fun z => (bt1 (M := 536870912) 29 (by decide) (by decide) (by decide)).mp z hp)]
    by_cases hx : fnX5_bits w 24 2 = 0
    · rw [if_pos (show fnX4_field w 24 2 = 0 from hx), if_pos (show fnX5_bits w 24 2 ≤ 0 from by rw [hx]; decide)]
      refine ⟨_, rfl, ?_⟩
      rw [key, Int32.add_zero, Int32.zero_add, bm]
      rfl
    · rw [if_neg (show ¬ fnX4_field w 24 2 = 0 from hx), if_neg (gt2 (b2i w 24) hx)]
      refine ⟨_, rfl, ?_⟩
      rw [key, Int32.zero_add]
      rfl
  · rw [if_neg hp, if_pos ((bt1 (M := 536870912) 29 (by decide) (by decide) (by decide)).mpr hp)]
    rw [grE]
    rcases c4 (b2i w 27) with h | h | h | h <;> rw [h, show fnX4_field w 27 2 = _ from h]
    · rw [if_pos rfl, t1]
      by_cases hx : fnX5_bits w 24 2 = 0
      · rw [if_pos (show fnX4_field w 24 2 = 0 from hx), if_pos (show fnX5_bits w 24 2 ≤ 0 from by rw [hx]; decide)]
        refine ⟨_, rfl, ?_⟩
        rw [key, Int32.add_zero]
        rfl
      · rw [if_neg (show ¬ fnX4_field w 24 2 = 0 from hx), if_neg (gt2 (b2i w 24) hx), sum3]
        refine ⟨_, rfl, ?_⟩
        rw [key]
        rfl
    · rw [if_neg (show ¬ (1 : Int32) = 0 from by decide), if_pos rfl, t2]
      by_cases hx : fnX5_bits w 24 2 = 0
      · rw [if_pos (show fnX4_field w 24 2 = 0 from hx), if_pos (show fnX5_bits w 24 2 ≤ 0 from by rw [hx]; decide)]
        refine ⟨_, rfl, ?_⟩
        rw [key, Int32.add_zero]
        rfl
      · rw [if_neg (show ¬ fnX4_field w 24 2 = 0 from hx), if_neg (gt2 (b2i w 24) hx), sum3]
        refine ⟨_, rfl, ?_⟩
        rw [key]
        rfl
    · rw [if_neg (show ¬ (2 : Int32) = 0 from by decide), if_neg (show ¬ (2 : Int32) = 1 from by decide), if_pos rfl, t3]
      by_cases hx : fnX5_bits w 24 2 = 0
      · rw [if_pos (show fnX4_field w 24 2 = 0 from hx), if_pos (show fnX5_bits w 24 2 ≤ 0 from by rw [hx]; decide)]
        refine ⟨_, rfl, ?_⟩
        rw [key, Int32.add_zero]
        rfl
      · rw [if_neg (show ¬ fnX4_field w 24 2 = 0 from hx), if_neg (gt2 (b2i w 24) hx), sum3]
        refine ⟨_, rfl, ?_⟩
        rw [key]
        rfl
    · rw [if_neg (show ¬ (3 : Int32) = 0 from by decide), if_neg (show ¬ (3 : Int32) = 1 from by decide), if_neg (show ¬ (3 : Int32) = 2 from by decide), t4]
      by_cases hx : fnX5_bits w 24 2 = 0
      · rw [if_pos (show fnX4_field w 24 2 = 0 from hx), if_pos (show fnX5_bits w 24 2 ≤ 0 from by rw [hx]; decide)]
        refine ⟨_, rfl, ?_⟩
        rw [key, Int32.add_zero]
        rfl
      · rw [if_neg (show ¬ fnX4_field w 24 2 = 0 from hx), if_neg (gt2 (b2i w 24) hx), sum3]
        refine ⟨_, rfl, ?_⟩
        rw [key]
        rfl
