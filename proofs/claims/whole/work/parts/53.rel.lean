/-! reach, both sides -/
section
variable {th : Int32} {u : TR} {v : TM}
def rcM (v : TM) (A B : Int64) (a0 a1 a2 a3 : Int32) : Int32 × TM :=
  if fnX5_barred A B a1 a2 a3 ≤ 0 then
    if A &&& 17179869184 = 0 then ((fnX5_bits A 0 12 + a1) &&& 4095, v)
    else if 0 ≤ fnX5_findPage v a0 (a1 / 64) then
      if v.2.2.2.1.2.2 (fnX5_findPage v a0 (a1 / 64)).toNatClampNeg &&& 34359738368 = 0 then (-3, v)
      else (64 * fnX5_bits (v.2.2.2.1.2.2 (fnX5_findPage v a0 (a1 / 64)).toNatClampNeg) 0 6 + (a1 - a1 / 64 * 64), v)
    else if v.2.1 ((fnX5_bits A 0 12 + a1 / 64) &&& 4095).toNatClampNeg &&& 34359738368 = 0 then (-3, v)
      else (64 * fnX5_bits (v.2.1 ((fnX5_bits A 0 12 + a1 / 64) &&& 4095).toNatClampNeg) 0 6 + (a1 - a1 / 64 * 64), v)
  else (-1 - fnX5_barred A B a1 a2 a3, v)
def rcD (v : TM) (a0 a1 a2 a3 : Int32) : Int32 × TM :=
  if 0 ≤ fnX5_findDescriptor v a0 then rcM v (v.2.2.1.2.2.1 (fnX5_findDescriptor v a0).toNatClampNeg) (v.2.2.1.2.2.2 (fnX5_findDescriptor v a0).toNatClampNeg) a0 a1 a2 a3
  else rcM v (v.2.1 (2 * a0).toNatClampNeg) (v.2.1 (2 * a0 + 1).toNatClampNeg) a0 a1 a2 a3
theorem reachE (x : TM) (a0 a1 a2 a3 : Int32) : fnX5_reach x a0 a1 a2 a3 =
    (if a0 < 0 then (0, ((1 : Int32), x.2.1, x.2.2.1, x.2.2.2.1, x.2.2.2.2.1, x.2.2.2.2.2.1, x.2.2.2.2.2.2.1, x.2.2.2.2.2.2.2.1, x.2.2.2.2.2.2.2.2.1, x.2.2.2.2.2.2.2.2.2.1, x.2.2.2.2.2.2.2.2.2.2.1, x.2.2.2.2.2.2.2.2.2.2.2.1, x.2.2.2.2.2.2.2.2.2.2.2.2.1, x.2.2.2.2.2.2.2.2.2.2.2.2.2.1, x.2.2.2.2.2.2.2.2.2.2.2.2.2.2)) else if a0 ≤ 15 then (if a2 < 0 then (0, ((2 : Int32), x.2.1, x.2.2.1, x.2.2.2.1, x.2.2.2.2.1, x.2.2.2.2.2.1, x.2.2.2.2.2.2.1, x.2.2.2.2.2.2.2.1, x.2.2.2.2.2.2.2.2.1, x.2.2.2.2.2.2.2.2.2.1, x.2.2.2.2.2.2.2.2.2.2.1, x.2.2.2.2.2.2.2.2.2.2.2.1, x.2.2.2.2.2.2.2.2.2.2.2.2.1, x.2.2.2.2.2.2.2.2.2.2.2.2.2.1, x.2.2.2.2.2.2.2.2.2.2.2.2.2.2)) else if 7 < a2 then (0, ((2 : Int32), x.2.1, x.2.2.1, x.2.2.2.1, x.2.2.2.2.1, x.2.2.2.2.2.1, x.2.2.2.2.2.2.1, x.2.2.2.2.2.2.2.1, x.2.2.2.2.2.2.2.2.1, x.2.2.2.2.2.2.2.2.2.1, x.2.2.2.2.2.2.2.2.2.2.1, x.2.2.2.2.2.2.2.2.2.2.2.1, x.2.2.2.2.2.2.2.2.2.2.2.2.1, x.2.2.2.2.2.2.2.2.2.2.2.2.2.1, x.2.2.2.2.2.2.2.2.2.2.2.2.2.2)) else if a1 < 0 then (0, ((2 : Int32), x.2.1, x.2.2.1, x.2.2.2.1, x.2.2.2.2.1, x.2.2.2.2.2.1, x.2.2.2.2.2.2.1, x.2.2.2.2.2.2.2.1, x.2.2.2.2.2.2.2.2.1, x.2.2.2.2.2.2.2.2.2.1, x.2.2.2.2.2.2.2.2.2.2.1, x.2.2.2.2.2.2.2.2.2.2.2.1, x.2.2.2.2.2.2.2.2.2.2.2.2.1, x.2.2.2.2.2.2.2.2.2.2.2.2.2.1, x.2.2.2.2.2.2.2.2.2.2.2.2.2.2)) else if 4095 < a1 then (0, ((2 : Int32), x.2.1, x.2.2.1, x.2.2.2.1, x.2.2.2.2.1, x.2.2.2.2.2.1, x.2.2.2.2.2.2.1, x.2.2.2.2.2.2.2.1, x.2.2.2.2.2.2.2.2.1, x.2.2.2.2.2.2.2.2.2.1, x.2.2.2.2.2.2.2.2.2.2.1, x.2.2.2.2.2.2.2.2.2.2.2.1, x.2.2.2.2.2.2.2.2.2.2.2.2.1, x.2.2.2.2.2.2.2.2.2.2.2.2.2.1, x.2.2.2.2.2.2.2.2.2.2.2.2.2.2)) else if a3 < 0 then (0, ((2 : Int32), x.2.1, x.2.2.1, x.2.2.2.1, x.2.2.2.2.1, x.2.2.2.2.2.1, x.2.2.2.2.2.2.1, x.2.2.2.2.2.2.2.1, x.2.2.2.2.2.2.2.2.1, x.2.2.2.2.2.2.2.2.2.1, x.2.2.2.2.2.2.2.2.2.2.1, x.2.2.2.2.2.2.2.2.2.2.2.1, x.2.2.2.2.2.2.2.2.2.2.2.2.1, x.2.2.2.2.2.2.2.2.2.2.2.2.2.1, x.2.2.2.2.2.2.2.2.2.2.2.2.2.2)) else if a3 ≤ 2 then rcD ((0 : Int32), x.2.1, x.2.2.1, x.2.2.2.1, x.2.2.2.2.1, x.2.2.2.2.2.1, x.2.2.2.2.2.2.1, x.2.2.2.2.2.2.2.1, x.2.2.2.2.2.2.2.2.1, x.2.2.2.2.2.2.2.2.2.1, x.2.2.2.2.2.2.2.2.2.2.1, x.2.2.2.2.2.2.2.2.2.2.2.1, x.2.2.2.2.2.2.2.2.2.2.2.2.1, x.2.2.2.2.2.2.2.2.2.2.2.2.2.1, x.2.2.2.2.2.2.2.2.2.2.2.2.2.2) a0 a1 a2 a3 else (0, ((2 : Int32), x.2.1, x.2.2.1, x.2.2.2.1, x.2.2.2.2.1, x.2.2.2.2.2.1, x.2.2.2.2.2.2.1, x.2.2.2.2.2.2.2.1, x.2.2.2.2.2.2.2.2.1, x.2.2.2.2.2.2.2.2.2.1, x.2.2.2.2.2.2.2.2.2.2.1, x.2.2.2.2.2.2.2.2.2.2.2.1, x.2.2.2.2.2.2.2.2.2.2.2.2.1, x.2.2.2.2.2.2.2.2.2.2.2.2.2.1, x.2.2.2.2.2.2.2.2.2.2.2.2.2.2))) else (0, ((1 : Int32), x.2.1, x.2.2.1, x.2.2.2.1, x.2.2.2.2.1, x.2.2.2.2.2.1, x.2.2.2.2.2.2.1, x.2.2.2.2.2.2.2.1, x.2.2.2.2.2.2.2.2.1, x.2.2.2.2.2.2.2.2.2.1, x.2.2.2.2.2.2.2.2.2.2.1, x.2.2.2.2.2.2.2.2.2.2.2.1, x.2.2.2.2.2.2.2.2.2.2.2.2.1, x.2.2.2.2.2.2.2.2.2.2.2.2.2.1, x.2.2.2.2.2.2.2.2.2.2.2.2.2.2))) := rfl
theorem bar0 {A B : Int64} {a b c : Int32} : fnX5_barred A B a b c ≤ 0 ↔ fnX5_barred A B a b c = 0 := by
  have h := ivX5_barred A B a b c
  constructor
  · intro z
    exact Int32.toInt_inj.mp (by have := leJ z; have := h.1; rw [show (0 : Int32).toInt = 0 from by decide] at *; exact Int.le_antisymm (by assumption) (by assumption))
  · intro z; rw [z]; decide
theorem rcR {A B : Int64} {s w r way : Int32} {D : TMD} {G : TMG} {P : TMP} {Z : TMB} {E : TMQ} {X : TMX} {J : Int32} (hI : iR u) (hC : RC u.2.2.2.2.2.2.2.2.1 D) (hP : RP u.2.2.2.2.2.2.2.2.2.1 G) (hT : RT u.2.2.2.1 P) (hy : way = 0 ∨ way = 1 ∨ way = 2)
    (hl : fnX3_lookForDescriptor u.2.2.2.2.2.2.2 s 0 = (u.2.2.2.2.2.2.2.1, u.2.2.2.2.2.2.2.2.1, u.2.2.2.2.2.2.2.2.2.1, dsc A B)) :
    (rcM (mk th u D G P Z E X J) A B s w r way).1 = (fnX4_reach u s w r way).1 ∧ Rl th (fnX4_reach u s w r way).2 (rcM (mk th u D G P Z E X J) A B s w r way).2 := by
  have hfin : ∀ d : TD, Rl th (setS u (u.2.2.2.2.2.2.2.1, u.2.2.2.2.2.2.2.2.1, u.2.2.2.2.2.2.2.2.2.1, d)) (mk th u D G P Z E X J) := fun d => ⟨D, G, P, Z, E, X, J, rfl, hC, hP, hT⟩
  unfold rcM fnX4_reach fnX3_locate
  rw [hl]
  dsimp only
  rw [refB hy]
  by_cases hb : fnX5_barred A B w r way = 0
  · rw [if_pos hb, if_pos (bar0.mpr hb)]
    by_cases hp : A &&& 17179869184 = 0
    · rw [if_pos hp, if_pos (show (dsc A B).2.1 = 0 from z1.mpr hp)]
      exact ⟨rfl, hfin _⟩
    · rw [if_neg hp, if_neg (show ¬ (dsc A B).2.1 = 0 from fun z => hp (z1.mp z))]
      rw [findP (c := u.2.2.2.2.2.2.2.2.2.1) (v := mk th u D G P Z E X J) (RPG hP) s (w / 64)]
      unfold fnX3_lookForPage
      dsimp only
      rcases placeLt (c := u.2.2.2.2.2.2.2.2.2.1) (n := 64 * s + w / 64) with hr | ⟨k, hk4, hr, hk⟩
      · rw [hr, if_pos rfl, if_neg (show ¬ (0 : Int32) ≤ -1 from by decide), if_pos rfl]
        have ew : u.2.2.2.2.2.2.2.1 (fnX4_sum (dsc A B).2.2.1 (w / 64)).toNatClampNeg = (mk th u D G P Z E X J).2.1 ((fnX5_bits A 0 12 + w / 64) &&& 4095).toNatClampNeg := rfl
        rw [ew]
        have hw36 : i36 ((mk th u D G P Z E X J).2.1 ((fnX5_bits A 0 12 + w / 64) &&& 4095).toNatClampNeg) := hI.2.2.2.2.2.2.2.1 _
        by_cases ht : (mk th u D G P Z E X J).2.1 ((fnX5_bits A 0 12 + w / 64) &&& 4095).toNatClampNeg &&& 34359738368 = 0
        · rw [if_pos ht, if_pos ht]; exact ⟨rfl, hfin _⟩
        · rw [if_neg ht, if_neg ht, pgE hw36]; exact ⟨rfl, hfin _⟩
      · have key : ∀ k : Nat, k < 4 → (¬ nI k = -1) ∧ (0 : Int32) ≤ nI k ∧ (nI k).toNatClampNeg = k := by decide
        obtain ⟨q1, q2, q3⟩ := key k hk4
        have hv := hP.2 k hk
        rw [hr, if_neg q1, if_pos q2, if_pos rfl, q3]
        rw [show (mk th u D G P Z E X J).2.2.2.1.2.2 k = u.2.2.2.2.2.2.2.2.2.1.2.1 k from hv.2.1.symm]
        have hw36 : i36 (u.2.2.2.2.2.2.2.2.2.1.2.1 k) := hI.2.2.2.2.2.2.2.2.2.1.1 _
        by_cases ht : u.2.2.2.2.2.2.2.2.2.1.2.1 k &&& 34359738368 = 0
        · rw [if_pos ht, if_pos ht]; exact ⟨rfl, hfin _⟩
        · rw [if_neg ht, if_neg ht, pgE hw36]; exact ⟨rfl, hfin _⟩
  · rw [if_neg hb, if_neg (fun z => hb (bar0.mp z))]
    exact ⟨rfl, hfin _⟩
theorem reachR {s w r way : Int32} (hI : iR u) (h : Rl th u v) (s0 : ¬ s < 0) (s1 : s ≤ 15) (r0 : ¬ r < 0) (r1 : ¬ 7 < r) (w0 : ¬ w < 0) (w1 : ¬ 4095 < w) (y0 : ¬ way < 0) (y1 : way ≤ 2) :
    (fnX5_reach v s w r way).1 = (fnX4_reach u s w r way).1 ∧ Rl 0 (fnX4_reach u s w r way).2 (fnX5_reach v s w r way).2 := by
  obtain ⟨D, G, P, Z, E, X, J, rfl, hC, hP, hT⟩ := h
  have hy : way = 0 ∨ way = 1 ∨ way = 2 := by
    rcases c4 (x := way) (mkI (c := 2) y0 y1 (by decide)) with e | e | e | e
    · exact Or.inl e
    · exact Or.inr (Or.inl e)
    · exact Or.inr (Or.inr e)
    · subst e; exact absurd y1 (by decide)
  rw [reachE, if_neg s0, if_pos s1, if_neg r0, if_neg r1, if_neg w0, if_neg w1, if_neg y0, if_pos y1]
  show (rcD (mk 0 u D G P Z E X J) s w r way).1 = _ ∧ Rl 0 _ (rcD (mk 0 u D G P Z E X J) s w r way).2
  unfold rcD
  rw [findD (c := u.2.2.2.2.2.2.2.2.1) (v := mk 0 u D G P Z E X J) hC s]
  rcases placeLt (c := u.2.2.2.2.2.2.2.2.1) (n := s) with hr | ⟨k, hk4, hr, hk⟩
  · rw [hr, if_neg (show ¬ (0 : Int32) ≤ -1 from by decide)]
    refine rcR hI hC hP hT hy ?_
    unfold fnX3_lookForDescriptor
    dsimp only
    rw [hr, if_pos rfl, if_pos rfl, becE]
    rfl
  · have key : ∀ k : Nat, k < 4 → (¬ nI k = -1) ∧ (0 : Int32) ≤ nI k ∧ (nI k).toNatClampNeg = k := by decide
    obtain ⟨q1, q2, q3⟩ := key k hk4
    have hv := hC.2 k hk
    rw [hr, if_pos q2, q3]
    refine rcR hI hC hP hT hy ?_
    unfold fnX3_lookForDescriptor
    dsimp only
    rw [hr, if_neg q1, if_pos rfl, q3, becE, hv.2.1, hv.2.2]
    rfl
theorem reachX1 {s w r way : Int32} (h : Rl th u v) (h0 : s < 0 ∨ ¬ s ≤ 15) : Rl 1 u (fnX5_reach v s w r way).2 := by
  obtain ⟨D, G, P, B, E, X, J, rfl, hC, hP, hT⟩ := h
  rw [reachE]
  by_cases g : s < 0
  · rw [if_pos g]; exact ⟨D, G, P, B, E, X, J, rfl, hC, hP, hT⟩
  · rw [if_neg g, if_neg (h0.resolve_left g)]; exact ⟨D, G, P, B, E, X, J, rfl, hC, hP, hT⟩
theorem reachX2 {s w r way : Int32} (h : Rl th u v) (s0 : ¬ s < 0) (s1 : s ≤ 15) (h0 : r < 0 ∨ 7 < r ∨ w < 0 ∨ 4095 < w ∨ way < 0 ∨ ¬ way ≤ 2) : Rl 2 u (fnX5_reach v s w r way).2 := by
  obtain ⟨D, G, P, B, E, X, J, rfl, hC, hP, hT⟩ := h
  have z : Rl 2 u (mk 2 u D G P B E X J) := ⟨D, G, P, B, E, X, J, rfl, hC, hP, hT⟩
  rw [reachE, if_neg s0, if_pos s1]
  by_cases g1 : r < 0
  · rw [if_pos g1]; exact z
  · rw [if_neg g1]
    by_cases g2 : 7 < r
    · rw [if_pos g2]; exact z
    · rw [if_neg g2]
      by_cases g3 : w < 0
      · rw [if_pos g3]; exact z
      · rw [if_neg g3]
        by_cases g4 : 4095 < w
        · rw [if_pos g4]; exact z
        · rw [if_neg g4]
          by_cases g5 : way < 0
          · rw [if_pos g5]; exact z
          · rw [if_neg g5, if_neg (by rcases h0 with h | h | h | h | h | h <;> first | contradiction | exact h)]; exact z
end
