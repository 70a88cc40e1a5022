/-! the public calls, both sides -/
section
variable {th : Int32} {u : TR} {v : TM}
theorem RlT (h : Rl th u v) : v.1 = th := by obtain ⟨D, G, P, B, E, X, J, rfl, _⟩ := h; rfl
theorem pokeR {a : Int32} {w : Int64} (h : Rl th u v) (h0 : ¬ a < 0) (h1 : a ≤ 4095) : Rl 0 (fnX4_poke u a w) (fnX5_poke v a w) := by
  obtain ⟨D, G, P, B, E, X, J, rfl, hC, hP, hT⟩ := h
  unfold fnX5_poke
  rw [if_neg h0, if_pos h1]
  exact ⟨D, G, P, B, E, X, J, rfl, hC, hP, hT⟩
theorem pokeX {a : Int32} {w : Int64} (h : Rl th u v) (h0 : a < 0 ∨ ¬ a ≤ 4095) : Rl 1 u (fnX5_poke v a w) := by
  obtain ⟨D, G, P, B, E, X, J, rfl, hC, hP, hT⟩ := h
  unfold fnX5_poke
  by_cases g : a < 0
  · rw [if_pos g]; exact ⟨D, G, P, B, E, X, J, rfl, hC, hP, hT⟩
  · rw [if_neg g, if_neg (h0.resolve_left g)]; exact ⟨D, G, P, B, E, X, J, rfl, hC, hP, hT⟩
theorem peekR {a : Int32} (h : Rl th u v) (h0 : ¬ a < 0) (h1 : a ≤ 4095) : (fnX5_peek v a).1 = fnX4_peek u a ∧ Rl 0 u (fnX5_peek v a).2 := by
  obtain ⟨D, G, P, B, E, X, J, rfl, hC, hP, hT⟩ := h
  unfold fnX5_peek
  rw [if_neg h0, if_pos h1]
  exact ⟨rfl, D, G, P, B, E, X, J, rfl, hC, hP, hT⟩
theorem peekX {a : Int32} (h : Rl th u v) (h0 : a < 0 ∨ ¬ a ≤ 4095) : Rl 1 u (fnX5_peek v a).2 := by
  obtain ⟨D, G, P, B, E, X, J, rfl, hC, hP, hT⟩ := h
  unfold fnX5_peek
  by_cases g : a < 0
  · rw [if_pos g]; exact ⟨D, G, P, B, E, X, J, rfl, hC, hP, hT⟩
  · rw [if_neg g, if_neg (h0.resolve_left g)]; exact ⟨D, G, P, B, E, X, J, rfl, hC, hP, hT⟩
theorem goR (h : Rl th u v) : Rl 0 (fnX4_go u) (fnX5_go v) := by
  obtain ⟨D, G, P, B, E, X, J, rfl, hC, hP, hT⟩ := h
  exact ⟨D, G, P, B, E, X, J, rfl, hC, hP, hT⟩
theorem intrR {a : Int32} (h : Rl th u v) (h0 : ¬ a < 0) (h1 : a ≤ 3) : Rl 0 (fnX4_interrupt u a) (fnX5_interrupt v a) := by
  obtain ⟨D, G, P, B, E, X, J, rfl, hC, hP, hT⟩ := h
  unfold fnX5_interrupt
  rw [if_neg h0, if_pos h1]
  exact ⟨D, G, P, B, E, X, J, rfl, hC, hP, hT⟩
theorem intrX {a : Int32} (h : Rl th u v) (h0 : a < 0 ∨ ¬ a ≤ 3) : Rl 1 u (fnX5_interrupt v a) := by
  obtain ⟨D, G, P, B, E, X, J, rfl, hC, hP, hT⟩ := h
  unfold fnX5_interrupt
  by_cases g : a < 0
  · rw [if_pos g]; exact ⟨D, G, P, B, E, X, J, rfl, hC, hP, hT⟩
  · rw [if_neg g, if_neg (h0.resolve_left g)]; exact ⟨D, G, P, B, E, X, J, rfl, hC, hP, hT⟩
theorem savedR (h : Rl th u v) : (fnX5_saved v).1 = fnX4_saved u ∧ Rl 0 u (fnX5_saved v).2 := by
  obtain ⟨D, G, P, B, E, X, J, rfl, hC, hP, hT⟩ := h
  unfold fnX5_saved fnX4_saved
  have e : (mk th u D G P B E X J).2.2.2.2.2.2.2.2.1.2.2.2 = u.2.1.1 := rfl
  rw [e]
  by_cases g : u.2.1.1 = 0
  · rw [if_pos g, if_pos g]; exact ⟨rfl, D, G, P, B, E, X, J, rfl, hC, hP, hT⟩
  · rw [if_neg g, if_neg g]; exact ⟨rfl, D, G, P, B, E, X, J, rfl, hC, hP, hT⟩
theorem stateR {a : Int32} (h : Rl th u v) : (fnX5_state v a).1 = fnX4_state u a ∧ Rl 0 u (fnX5_state v a).2 := by
  obtain ⟨D, G, P, B, E, X, J, rfl, hC, hP, hT⟩ := h
  unfold fnX5_state fnX4_state
  have e : (mk th u D G P B E X J).2.2.2.2.2.2.2.2.1.2.1 = u.2.1.2.2.1 := rfl
  have e2 : (mk th u D G P B E X J).2.2.2.2.2.2.2.2.1.1 = u.2.1.2.1 := rfl
  rw [e, e2]
  by_cases a0 : a = 0
  · rw [if_pos a0, if_pos a0]
    by_cases g : u.2.1.2.2.1 = 0
    · rw [if_pos g, if_pos g]; exact ⟨rfl, D, G, P, B, E, X, J, rfl, hC, hP, hT⟩
    · rw [if_neg g, if_neg g]; exact ⟨rfl, D, G, P, B, E, X, J, rfl, hC, hP, hT⟩
  · rw [if_neg a0, if_neg a0]
    by_cases a1 : a = 1
    · rw [if_pos a1, if_pos a1]
      by_cases g : u.2.1.2.1 = 0
      · rw [if_pos g, if_pos g]; exact ⟨rfl, D, G, P, B, E, X, J, rfl, hC, hP, hT⟩
      · rw [if_neg g, if_neg g]; exact ⟨rfl, D, G, P, B, E, X, J, rfl, hC, hP, hT⟩
    · rw [if_neg a1, if_neg a1]
      by_cases a2 : a = 2
      · rw [if_pos a2, if_pos a2]; exact ⟨rfl, D, G, P, B, E, X, J, rfl, hC, hP, hT⟩
      · rw [if_neg a2, if_neg a2]
        by_cases a3 : a = 3
        · rw [if_pos a3, if_pos a3]; exact ⟨rfl, D, G, P, B, E, X, J, rfl, hC, hP, hT⟩
        · rw [if_neg a3, if_neg a3]
          by_cases a4 : a = 4
          · rw [if_pos a4, if_pos a4]; exact ⟨rfl, D, G, P, B, E, X, J, rfl, hC, hP, hT⟩
          · rw [if_neg a4, if_neg a4]
            by_cases a5 : a = 5
            · rw [if_pos a5, if_pos a5]; exact ⟨rfl, D, G, P, B, E, X, J, rfl, hC, hP, hT⟩
            · rw [if_neg a5, if_neg a5]; exact ⟨rfl, D, G, P, B, E, X, J, rfl, hC, hP, hT⟩
theorem clmp {a c : Int32} (h0 : ¬ a < 0) (h1 : ¬ c ≤ a) : (a.toNatClampNeg : Int) < c.toInt := by
  have := nltJ h0; have h := nleJ h1
  rw [show (0 : Int32).toInt = 0 from by decide] at this
  have e : (a.toNatClampNeg : Int) = a.toInt := by
    rw [Int32.toNatClampNeg]
    omega
  omega
theorem copyR {a w : Int32} (h : Rl th u v) : (fnX5_copy v a w).1 = fnX4_copy u a w ∧ Rl 0 u (fnX5_copy v a w).2 := by
  obtain ⟨D, G, P, B, E, X, J, rfl, hC, hP, hT⟩ := h
  unfold fnX5_copy fnX4_copy fnX0_nameAt
  have e : (mk th u D G P B E X J).2.2.1.1 = u.2.2.2.2.2.2.2.2.1.2.2.2 := hC.1.symm
  have e2 : (mk th u D G P B E X J).2.2.2.1.1 = u.2.2.2.2.2.2.2.2.2.1.2.2.2 := hP.1.symm
  rw [e, e2]
  dsimp only
  by_cases a0 : a < 0
  · rw [if_pos a0, if_pos a0, if_pos a0]
    refine ⟨?_, D, G, P, B, E, X, J, rfl, hC, hP, hT⟩
    by_cases w0 : w = 0
    · rw [if_pos w0]
    · rw [if_neg w0]
      by_cases w1 : w = 1
      · rw [if_pos w1]
      · rw [if_neg w1]
  · rw [if_neg a0, if_neg a0, if_neg a0]
    by_cases w0 : w = 0
    · rw [if_pos w0, if_pos w0]
      by_cases c : u.2.2.2.2.2.2.2.2.1.2.2.2 ≤ a
      · rw [if_pos c, if_pos c]; exact ⟨rfl, D, G, P, B, E, X, J, rfl, hC, hP, hT⟩
      · rw [if_neg c, if_neg c, if_neg (show ¬ w = 1 from by rw [w0]; decide)]
        exact ⟨(hC.2 _ (clmp a0 c)).1.symm, D, G, P, B, E, X, J, rfl, hC, hP, hT⟩
    · rw [if_neg w0, if_neg w0]
      by_cases w1 : w = 1
      · rw [if_pos w1, if_pos w1]
        by_cases c : u.2.2.2.2.2.2.2.2.2.1.2.2.2 ≤ a
        · rw [if_pos c, if_neg (Int32.not_lt.mpr c)]; exact ⟨rfl, D, G, P, B, E, X, J, rfl, hC, hP, hT⟩
        · rw [if_neg c, if_pos (Int32.not_le.mp c)]
          exact ⟨(hP.2 _ (clmp a0 c)).1.symm, D, G, P, B, E, X, J, rfl, hC, hP, hT⟩
      · rw [if_neg w1, if_neg w1]; exact ⟨rfl, D, G, P, B, E, X, J, rfl, hC, hP, hT⟩
theorem runR {a : Int32} (hI : iR u) (h : Rl th u v) (h0 : ¬ a < 0) (h1 : a ≤ 100) : (fnX5_run v a).1 = (fnX4_run u a).1 ∧ Rl 0 (fnX4_run u a).2 (fnX5_run v a).2 := by
  have hR : Rl 0 u ((0 : Int32), v.2.1, v.2.2.1, v.2.2.2.1, v.2.2.2.2.1, v.2.2.2.2.2.1, v.2.2.2.2.2.2.1, v.2.2.2.2.2.2.2.1, v.2.2.2.2.2.2.2.2.1, v.2.2.2.2.2.2.2.2.2.1, v.2.2.2.2.2.2.2.2.2.2.1, v.2.2.2.2.2.2.2.2.2.2.2.1, v.2.2.2.2.2.2.2.2.2.2.2.2.1, v.2.2.2.2.2.2.2.2.2.2.2.2.2.1, v.2.2.2.2.2.2.2.2.2.2.2.2.2.2) := by
    obtain ⟨D, G, P, B, E, X, J, rfl, hC, hP, hT⟩ := h
    exact ⟨D, G, P, B, E, X, J, rfl, hC, hP, hT⟩
  have g0 := nltJ h0; have g1 := leJ h1
  rw [show (0 : Int32).toInt = 0 from by decide] at g0
  rw [show (100 : Int32).toInt = 100 from by decide] at g1
  unfold fnX5_run fnX4_run
  rw [if_neg h0, if_pos h1]
  have q := runLR (a0 := a) 101 (a.toInt.toNat + 1) 0 u _ hI hR (by decide) (by rw [show (0 : Int32).toInt = 0 from by decide]; exact g0) (by rw [show (0 : Int32).toInt = 0 from by decide]; omega) (by rw [show (0 : Int32).toInt = 0 from by decide]; omega)
  exact ⟨q.1.symm, q.2⟩
theorem runX {a : Int32} (h : Rl th u v) (h0 : a < 0 ∨ ¬ a ≤ 100) : Rl 1 u (fnX5_run v a).2 := by
  have hR : Rl 1 u ((1 : Int32), v.2.1, v.2.2.1, v.2.2.2.1, v.2.2.2.2.1, v.2.2.2.2.2.1, v.2.2.2.2.2.2.1, v.2.2.2.2.2.2.2.1, v.2.2.2.2.2.2.2.2.1, v.2.2.2.2.2.2.2.2.2.1, v.2.2.2.2.2.2.2.2.2.2.1, v.2.2.2.2.2.2.2.2.2.2.2.1, v.2.2.2.2.2.2.2.2.2.2.2.2.1, v.2.2.2.2.2.2.2.2.2.2.2.2.2.1, v.2.2.2.2.2.2.2.2.2.2.2.2.2.2) := by
    obtain ⟨D, G, P, B, E, X, J, rfl, hC, hP, hT⟩ := h
    exact ⟨D, G, P, B, E, X, J, rfl, hC, hP, hT⟩
  unfold fnX5_run
  by_cases g : a < 0
  · rw [if_pos g, lpX5_run_s, if_neg (show ¬ (1 : Int32) = 0 from by decide)]; exact hR
  · rw [if_neg g, if_neg (h0.resolve_left g), lpX5_run_s, if_neg (show ¬ (1 : Int32) = 0 from by decide)]; exact hR
theorem setX {a : Int32} {w : Int64} (h : Rl th u v) (h0 : a < 0 ∨ ¬ a ≤ 10) : Rl 1 u (fnX5_set v a w) := by
  obtain ⟨D, G, P, B, E, X, J, rfl, hC, hP, hT⟩ := h
  unfold fnX5_set
  by_cases g : a < 0
  · rw [if_pos g]; exact ⟨D, G, P, B, E, X, J, rfl, hC, hP, hT⟩
  · rw [if_neg g, if_neg (h0.resolve_left g)]; exact ⟨D, G, P, B, E, X, J, rfl, hC, hP, hT⟩
theorem getX {a : Int32} (h : Rl th u v) (h0 : a < 0 ∨ ¬ a ≤ 10) : Rl 1 u (fnX5_get v a).2 := by
  obtain ⟨D, G, P, B, E, X, J, rfl, hC, hP, hT⟩ := h
  unfold fnX5_get
  by_cases g : a < 0
  · rw [if_pos g]; exact ⟨D, G, P, B, E, X, J, rfl, hC, hP, hT⟩
  · rw [if_neg g, if_neg (h0.resolve_left g)]; exact ⟨D, G, P, B, E, X, J, rfl, hC, hP, hT⟩
theorem j11 {a : Int32} (h0 : ¬ a < 0) (h1 : a ≤ 10) : ∃ j : Nat, j < 11 ∧ a = nI j := c11 (mkI h0 h1 (by decide))
theorem setR {a : Int32} {w : Int64} (h : Rl th u v) (h0 : ¬ a < 0) (h1 : a ≤ 10) : Rl 0 (fnX4_set u a w) (fnX5_set v a w) := by
  obtain ⟨D, G, P, B, E, X, J, rfl, hC, hP, hT⟩ := h
  obtain ⟨j, hj, rfl⟩ := j11 h0 h1
  unfold fnX5_set fnX4_set
  rw [if_neg h0, if_pos h1]
  rcases (show j = 0 ∨ j = 1 ∨ j = 2 ∨ j = 3 ∨ j = 4 ∨ j = 5 ∨ j = 6 ∨ j = 7 ∨ j = 8 ∨ j = 9 ∨ j = 10 by omega) with rfl | rfl | rfl | rfl | rfl | rfl | rfl | rfl | rfl | rfl | rfl
  · rw [if_pos (show nI 0 = 0 from by decide), if_pos (show nI 0 = 0 from by decide)]; exact ⟨D, G, P, B, E, X, J, rfl, hC, hP, hT⟩
  · rw [if_neg (show ¬ nI 1 = 0 from by decide), if_neg (show ¬ nI 1 = 0 from by decide), if_pos (show nI 1 = 1 from by decide), if_pos (show nI 1 = 1 from by decide)]; exact ⟨D, G, P, B, E, X, J, rfl, hC, hP, hT⟩
  · rw [if_neg (show ¬ nI 2 = 0 from by decide), if_neg (show ¬ nI 2 = 0 from by decide), if_neg (show ¬ nI 2 = 1 from by decide), if_neg (show ¬ nI 2 = 1 from by decide), if_neg (show ¬ (5 : Int32) < nI 2 from by decide), if_neg (show ¬ (6 : Int32) ≤ nI 2 from by decide), ← b012]; exact ⟨D, G, P, B, E, X, J, rfl, hC, hP, hT⟩
  · rw [if_neg (show ¬ nI 3 = 0 from by decide), if_neg (show ¬ nI 3 = 0 from by decide), if_neg (show ¬ nI 3 = 1 from by decide), if_neg (show ¬ nI 3 = 1 from by decide), if_neg (show ¬ (5 : Int32) < nI 3 from by decide), if_neg (show ¬ (6 : Int32) ≤ nI 3 from by decide), ← b012]; exact ⟨D, G, P, B, E, X, J, rfl, hC, hP, hT⟩
  · rw [if_neg (show ¬ nI 4 = 0 from by decide), if_neg (show ¬ nI 4 = 0 from by decide), if_neg (show ¬ nI 4 = 1 from by decide), if_neg (show ¬ nI 4 = 1 from by decide), if_neg (show ¬ (5 : Int32) < nI 4 from by decide), if_neg (show ¬ (6 : Int32) ≤ nI 4 from by decide), ← b012]; exact ⟨D, G, P, B, E, X, J, rfl, hC, hP, hT⟩
  · rw [if_neg (show ¬ nI 5 = 0 from by decide), if_neg (show ¬ nI 5 = 0 from by decide), if_neg (show ¬ nI 5 = 1 from by decide), if_neg (show ¬ nI 5 = 1 from by decide), if_neg (show ¬ (5 : Int32) < nI 5 from by decide), if_neg (show ¬ (6 : Int32) ≤ nI 5 from by decide), ← b012]; exact ⟨D, G, P, B, E, X, J, rfl, hC, hP, hT⟩
  · rw [if_neg (show ¬ nI 6 = 0 from by decide), if_neg (show ¬ nI 6 = 0 from by decide), if_neg (show ¬ nI 6 = 1 from by decide), if_neg (show ¬ nI 6 = 1 from by decide), if_pos (show (5 : Int32) < nI 6 from by decide), if_pos (show (6 : Int32) ≤ nI 6 from by decide), if_neg (show ¬ (9 : Int32) < nI 6 from by decide), if_neg (show ¬ (10 : Int32) ≤ nI 6 from by decide), if_pos (show nI 6 - 6 = 0 from by decide)]
    exact ⟨D, G, (upd P.1 0 (fnX5_bits w 24 4), upd P.2.1 0 (fnX5_bits w 0 12), upd P.2.2 0 (fnX5_bits w 21 3)), B, E, X, J, rfl, hC, hP, rt0 (t := (fnX5_bits w 24 4, fnX5_bits w 0 12, fnX5_bits w 21 3)) hT⟩
  · rw [if_neg (show ¬ nI 7 = 0 from by decide), if_neg (show ¬ nI 7 = 0 from by decide), if_neg (show ¬ nI 7 = 1 from by decide), if_neg (show ¬ nI 7 = 1 from by decide), if_pos (show (5 : Int32) < nI 7 from by decide), if_pos (show (6 : Int32) ≤ nI 7 from by decide), if_neg (show ¬ (9 : Int32) < nI 7 from by decide), if_neg (show ¬ (10 : Int32) ≤ nI 7 from by decide), if_neg (show ¬ nI 7 - 6 = 0 from by decide), if_pos (show nI 7 - 6 = 1 from by decide)]
    exact ⟨D, G, (upd P.1 1 (fnX5_bits w 24 4), upd P.2.1 1 (fnX5_bits w 0 12), upd P.2.2 1 (fnX5_bits w 21 3)), B, E, X, J, rfl, hC, hP, rt1 (t := (fnX5_bits w 24 4, fnX5_bits w 0 12, fnX5_bits w 21 3)) hT⟩
  · rw [if_neg (show ¬ nI 8 = 0 from by decide), if_neg (show ¬ nI 8 = 0 from by decide), if_neg (show ¬ nI 8 = 1 from by decide), if_neg (show ¬ nI 8 = 1 from by decide), if_pos (show (5 : Int32) < nI 8 from by decide), if_pos (show (6 : Int32) ≤ nI 8 from by decide), if_neg (show ¬ (9 : Int32) < nI 8 from by decide), if_neg (show ¬ (10 : Int32) ≤ nI 8 from by decide), if_neg (show ¬ nI 8 - 6 = 0 from by decide), if_neg (show ¬ nI 8 - 6 = 1 from by decide), if_pos (show nI 8 - 6 = 2 from by decide)]
    exact ⟨D, G, (upd P.1 2 (fnX5_bits w 24 4), upd P.2.1 2 (fnX5_bits w 0 12), upd P.2.2 2 (fnX5_bits w 21 3)), B, E, X, J, rfl, hC, hP, rt2 (t := (fnX5_bits w 24 4, fnX5_bits w 0 12, fnX5_bits w 21 3)) hT⟩
  · rw [if_neg (show ¬ nI 9 = 0 from by decide), if_neg (show ¬ nI 9 = 0 from by decide), if_neg (show ¬ nI 9 = 1 from by decide), if_neg (show ¬ nI 9 = 1 from by decide), if_pos (show (5 : Int32) < nI 9 from by decide), if_pos (show (6 : Int32) ≤ nI 9 from by decide), if_neg (show ¬ (9 : Int32) < nI 9 from by decide), if_neg (show ¬ (10 : Int32) ≤ nI 9 from by decide), if_neg (show ¬ nI 9 - 6 = 0 from by decide), if_neg (show ¬ nI 9 - 6 = 1 from by decide), if_neg (show ¬ nI 9 - 6 = 2 from by decide)]
    exact ⟨D, G, (upd P.1 3 (fnX5_bits w 24 4), upd P.2.1 3 (fnX5_bits w 0 12), upd P.2.2 3 (fnX5_bits w 21 3)), B, E, X, J, rfl, hC, hP, rt3 (t := (fnX5_bits w 24 4, fnX5_bits w 0 12, fnX5_bits w 21 3)) hT⟩
  · rw [if_neg (show ¬ nI 10 = 0 from by decide), if_neg (show ¬ nI 10 = 0 from by decide), if_neg (show ¬ nI 10 = 1 from by decide), if_neg (show ¬ nI 10 = 1 from by decide), if_pos (show (5 : Int32) < nI 10 from by decide), if_pos (show (6 : Int32) ≤ nI 10 from by decide), if_pos (show (9 : Int32) < nI 10 from by decide), if_pos (show (10 : Int32) ≤ nI 10 from by decide)]; exact ⟨D, G, P, B, E, X, J, rfl, hC, hP, hT⟩
theorem getR {a : Int32} (h : Rl th u v) (h0 : ¬ a < 0) (h1 : a ≤ 10) : (fnX5_get v a).1 = fnX4_get u a ∧ Rl 0 u (fnX5_get v a).2 := by
  obtain ⟨D, G, P, B, E, X, J, rfl, hC, hP, hT⟩ := h
  obtain ⟨j, hj, rfl⟩ := j11 h0 h1
  unfold fnX5_get fnX4_get
  rw [if_neg h0, if_pos h1]
  rcases (show j = 0 ∨ j = 1 ∨ j = 2 ∨ j = 3 ∨ j = 4 ∨ j = 5 ∨ j = 6 ∨ j = 7 ∨ j = 8 ∨ j = 9 ∨ j = 10 by omega) with rfl | rfl | rfl | rfl | rfl | rfl | rfl | rfl | rfl | rfl | rfl
  · rw [if_pos (show nI 0 = 0 from by decide), if_neg (show ¬ (2 : Int32) ≤ nI 0 from by decide), if_pos (show nI 0 = 0 from by decide)]; exact ⟨rfl, D, G, P, B, E, X, J, rfl, hC, hP, hT⟩
  · rw [if_neg (show ¬ nI 1 = 0 from by decide), if_pos (show nI 1 = 1 from by decide), if_neg (show ¬ (2 : Int32) ≤ nI 1 from by decide), if_neg (show ¬ nI 1 = 0 from by decide)]; exact ⟨rfl, D, G, P, B, E, X, J, rfl, hC, hP, hT⟩
  · rw [if_neg (show ¬ nI 2 = 0 from by decide), if_neg (show ¬ nI 2 = 1 from by decide), if_pos (show (2 : Int32) ≤ nI 2 from by decide), if_neg (show ¬ (5 : Int32) < nI 2 from by decide), if_neg (show ¬ (6 : Int32) ≤ nI 2 from by decide)]; exact ⟨rfl, D, G, P, B, E, X, J, rfl, hC, hP, hT⟩
  · rw [if_neg (show ¬ nI 3 = 0 from by decide), if_neg (show ¬ nI 3 = 1 from by decide), if_pos (show (2 : Int32) ≤ nI 3 from by decide), if_neg (show ¬ (5 : Int32) < nI 3 from by decide), if_neg (show ¬ (6 : Int32) ≤ nI 3 from by decide)]; exact ⟨rfl, D, G, P, B, E, X, J, rfl, hC, hP, hT⟩
  · rw [if_neg (show ¬ nI 4 = 0 from by decide), if_neg (show ¬ nI 4 = 1 from by decide), if_pos (show (2 : Int32) ≤ nI 4 from by decide), if_neg (show ¬ (5 : Int32) < nI 4 from by decide), if_neg (show ¬ (6 : Int32) ≤ nI 4 from by decide)]; exact ⟨rfl, D, G, P, B, E, X, J, rfl, hC, hP, hT⟩
  · rw [if_neg (show ¬ nI 5 = 0 from by decide), if_neg (show ¬ nI 5 = 1 from by decide), if_pos (show (2 : Int32) ≤ nI 5 from by decide), if_neg (show ¬ (5 : Int32) < nI 5 from by decide), if_neg (show ¬ (6 : Int32) ≤ nI 5 from by decide)]; exact ⟨rfl, D, G, P, B, E, X, J, rfl, hC, hP, hT⟩
  · rw [if_neg (show ¬ nI 6 = 0 from by decide), if_neg (show ¬ nI 6 = 1 from by decide), if_pos (show (2 : Int32) ≤ nI 6 from by decide), if_pos (show (5 : Int32) < nI 6 from by decide), if_pos (show (6 : Int32) ≤ nI 6 from by decide), if_neg (show ¬ (9 : Int32) < nI 6 from by decide), if_neg (show ¬ (10 : Int32) ≤ nI 6 from by decide), if_pos (show nI 6 - 6 = 0 from by decide)]
    dsimp only
    rw [hT.1]; exact ⟨rfl, D, G, P, B, E, X, J, rfl, hC, hP, hT⟩
  · rw [if_neg (show ¬ nI 7 = 0 from by decide), if_neg (show ¬ nI 7 = 1 from by decide), if_pos (show (2 : Int32) ≤ nI 7 from by decide), if_pos (show (5 : Int32) < nI 7 from by decide), if_pos (show (6 : Int32) ≤ nI 7 from by decide), if_neg (show ¬ (9 : Int32) < nI 7 from by decide), if_neg (show ¬ (10 : Int32) ≤ nI 7 from by decide), if_neg (show ¬ nI 7 - 6 = 0 from by decide), if_pos (show nI 7 - 6 = 1 from by decide)]
    dsimp only
    rw [hT.2.1]; exact ⟨rfl, D, G, P, B, E, X, J, rfl, hC, hP, hT⟩
  · rw [if_neg (show ¬ nI 8 = 0 from by decide), if_neg (show ¬ nI 8 = 1 from by decide), if_pos (show (2 : Int32) ≤ nI 8 from by decide), if_pos (show (5 : Int32) < nI 8 from by decide), if_pos (show (6 : Int32) ≤ nI 8 from by decide), if_neg (show ¬ (9 : Int32) < nI 8 from by decide), if_neg (show ¬ (10 : Int32) ≤ nI 8 from by decide), if_neg (show ¬ nI 8 - 6 = 0 from by decide), if_neg (show ¬ nI 8 - 6 = 1 from by decide), if_pos (show nI 8 - 6 = 2 from by decide)]
    dsimp only
    rw [hT.2.2.1]; exact ⟨rfl, D, G, P, B, E, X, J, rfl, hC, hP, hT⟩
  · rw [if_neg (show ¬ nI 9 = 0 from by decide), if_neg (show ¬ nI 9 = 1 from by decide), if_pos (show (2 : Int32) ≤ nI 9 from by decide), if_pos (show (5 : Int32) < nI 9 from by decide), if_pos (show (6 : Int32) ≤ nI 9 from by decide), if_neg (show ¬ (9 : Int32) < nI 9 from by decide), if_neg (show ¬ (10 : Int32) ≤ nI 9 from by decide), if_neg (show ¬ nI 9 - 6 = 0 from by decide), if_neg (show ¬ nI 9 - 6 = 1 from by decide), if_neg (show ¬ nI 9 - 6 = 2 from by decide)]
    dsimp only
    rw [hT.2.2.2]; exact ⟨rfl, D, G, P, B, E, X, J, rfl, hC, hP, hT⟩
  · rw [if_neg (show ¬ nI 10 = 0 from by decide), if_neg (show ¬ nI 10 = 1 from by decide), if_pos (show (2 : Int32) ≤ nI 10 from by decide), if_pos (show (5 : Int32) < nI 10 from by decide), if_pos (show (6 : Int32) ≤ nI 10 from by decide), if_pos (show (9 : Int32) < nI 10 from by decide), if_pos (show (10 : Int32) ≤ nI 10 from by decide)]; exact ⟨rfl, D, G, P, B, E, X, J, rfl, hC, hP, hT⟩
end
