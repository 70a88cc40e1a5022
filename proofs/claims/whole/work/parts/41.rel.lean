/-! looking for a descriptor, both sides -/
theorem placeName {c : TC} {n : Int32} {k : Nat} (hk4 : k < 4) (h : fnX0_placeOf c n = nI k) : c.1 k = n := by
  unfold fnX0_placeOf at h
  have m1 : ∀ k : Nat, k < 4 → ¬ (-1 : Int32) = nI k := by decide
  by_cases h0 : c.2.2.2 ≤ 0
  · rw [if_pos h0] at h; exact absurd h (m1 k hk4)
  · rw [if_neg h0] at h
    by_cases g0 : c.1 0 = n
    · rw [if_pos g0] at h
      have e : k = 0 := by
        have key : ∀ k : Nat, k < 4 → (0 : Int32) = nI k → k = 0 := by decide
        exact key k hk4 h
      subst e; exact g0
    · rw [if_neg g0] at h
      by_cases h1 : c.2.2.2 ≤ 1
      · rw [if_pos h1] at h; exact absurd h (m1 k hk4)
      · rw [if_neg h1] at h
        by_cases g1 : c.1 1 = n
        · rw [if_pos g1] at h
          have e : k = 1 := by
            have key : ∀ k : Nat, k < 4 → (1 : Int32) = nI k → k = 1 := by decide
            exact key k hk4 h
          subst e; exact g1
        · rw [if_neg g1] at h
          by_cases h2 : c.2.2.2 ≤ 2
          · rw [if_pos h2] at h; exact absurd h (m1 k hk4)
          · rw [if_neg h2] at h
            by_cases g2 : c.1 2 = n
            · rw [if_pos g2] at h
              have e : k = 2 := by
                have key : ∀ k : Nat, k < 4 → (2 : Int32) = nI k → k = 2 := by decide
                exact key k hk4 h
              subst e; exact g2
            · rw [if_neg g2] at h
              by_cases h3 : c.2.2.2 ≤ 3
              · rw [if_pos h3] at h; exact absurd h (m1 k hk4)
              · rw [if_neg h3] at h
                by_cases g3 : c.1 3 = n
                · rw [if_pos g3] at h
                  have e : k = 3 := by
                    have key : ∀ k : Nat, k < 4 → (3 : Int32) = nI k → k = 3 := by decide
                    exact key k hk4 h
                  subst e; exact g3
                · rw [if_neg g3] at h; exact absurd h (m1 k hk4)
theorem cN {c : Int32} (h : i5 c) : ∃ k : Nat, k ≤ 4 ∧ c = nI k := by
  obtain ⟨k, hk, e⟩ : ∃ j : Nat, j < 5 ∧ c = nI j := vp_in_of (vp_in_iff.mpr ⟨h.1, by have := h.2; omega⟩) (by decide)
  exact ⟨k, by omega, e⟩
theorem addK {c : TC} {s : Int32} {a b : Int64} {k : Nat} (hk : k < 4) (e : c.2.2.2 = nI k) : fnX0_add c s a b = (nI k, (upd c.1 k s, vp_updL c.2.1 k a, vp_updL c.2.2.1 k b, nI (k + 1))) := by
  unfold fnX0_add
  have key : ∀ k : Nat, k < 4 → (¬ (4 : Int32) ≤ nI k) ∧ (nI k + 1) - 1 = nI k ∧ ((nI k + 1) - 1).toNatClampNeg = k ∧ nI k + 1 = nI (k + 1) := by decide
  obtain ⟨k1, k2, k3, k4⟩ := key k hk
  rw [e, if_neg k1, k3, k2, k4]
theorem add4 {c : TC} {s : Int32} {a b : Int64} (e : c.2.2.2 = 4) : fnX0_add c s a b = (3, (upd c.1 3 s, vp_updL c.2.1 3 a, vp_updL c.2.2.1 3 b, 4)) := by
  unfold fnX0_add
  rw [e, if_pos (by decide), show ((4 : Int32) - 1).toNatClampNeg = 3 from by decide, show (4 : Int32) - 1 = 3 from by decide]
theorem lookD {x : TS} {v : TM} {s : Int32} (hw : x.1 = v.2.1) (h : RC x.2.1 v.2.2.1) (hc : i5 x.2.1.2.2.2) :
    ∃ (c' : TC) (D' : TMD) (X' : TMX), fnX3_lookForDescriptor x s 1 = (x.1, c', x.2.2.1, fnX1_become x.2.2.2 X'.1 X'.2) ∧ fnX5_look v s = sD v D' X' ∧ RC c' D' := by
  unfold fnX3_lookForDescriptor fnX5_look
  rw [findD h s, hw]
  dsimp only
  rcases placeLt (c := x.2.1) (n := s) with hr | ⟨k, hk4, hr, hk⟩
  · rw [hr, if_pos rfl, if_neg (show ¬ (0 : Int32) ≤ -1 from by decide), if_neg (show ¬ (1 : Int32) = 0 from by decide)]
    generalize v.2.1 ((2 : Int32) * s).toNatClampNeg = wa
    generalize v.2.1 ((2 : Int32) * s + 1).toNatClampNeg = wb
    by_cases ht : (wa &&& 34359738368) = 0
    · rw [if_pos (show (fnX1_become x.2.2.2 wa wb).1 = 0 from if_pos ht), if_pos ht]
      exact ⟨x.2.1, v.2.2.1, (wa, wb), rfl, rfl, h⟩
    · rw [if_neg (show ¬ (fnX1_become x.2.2.2 wa wb).1 = 0 from by rw [show (fnX1_become x.2.2.2 wa wb).1 = 1 from if_neg ht]; decide), if_neg ht]
      obtain ⟨k, hk, e⟩ := cN hc
      obtain ⟨ed, hd⟩ := h
      rcases (show k = 0 ∨ k = 1 ∨ k = 2 ∨ k = 3 ∨ k = 4 by omega) with rfl | rfl | rfl | rfl | rfl
      · rw [addK (k := 0) (by decide) e, ← ed, e, if_neg (show ¬ (4 : Int32) ≤ nI 0 from by decide), if_pos (show nI 0 + 1 - 1 = 0 from by decide)]
        refine ⟨_, _, (wa, wb), rfl, rfl, ?_⟩
        dsimp only [fnX0_moveToFront]
        rw [if_pos (show nI 0 = 0 from by decide)]
        rw [e, show (nI 0).toInt = 0 from by decide] at hd
        refine ⟨(show nI 1 = nI 0 + 1 from by decide), fun i hi => ?_⟩
        have hi : (i : Int) < (nI 1).toInt := hi
        rw [show (nI 1).toInt = 1 from by decide] at hi
        rcases (show i = 0 by omega) with rfl <;> simp [upd, vp_updL]
      · rw [addK (k := 1) (by decide) e, ← ed, e, if_neg (show ¬ (4 : Int32) ≤ nI 1 from by decide), if_neg (show ¬ nI 1 + 1 - 1 = 0 from by decide), if_pos (show nI 1 + 1 - 1 = 1 from by decide)]
        refine ⟨_, _, (wa, wb), rfl, rfl, ?_⟩
        dsimp only [fnX0_moveToFront]
        rw [if_neg (show ¬ nI 1 = 0 from by decide), if_pos (show nI 1 = 1 from by decide)]
        rw [e, show (nI 1).toInt = 1 from by decide] at hd
        have h0 := hd 0 (by omega)
        refine ⟨(show nI 2 = nI 1 + 1 from by decide), fun i hi => ?_⟩
        have hi : (i : Int) < (nI 2).toInt := hi
        rw [show (nI 2).toInt = 2 from by decide] at hi
        rcases (show i = 0 ∨ i = 1 by omega) with rfl | rfl <;> simp [upd, vp_updL, h0]
      · rw [addK (k := 2) (by decide) e, ← ed, e, if_neg (show ¬ (4 : Int32) ≤ nI 2 from by decide), if_neg (show ¬ nI 2 + 1 - 1 = 0 from by decide), if_neg (show ¬ nI 2 + 1 - 1 = 1 from by decide), if_pos (show nI 2 + 1 - 1 = 2 from by decide)]
        refine ⟨_, _, (wa, wb), rfl, rfl, ?_⟩
        dsimp only [fnX0_moveToFront]
        rw [if_neg (show ¬ nI 2 = 0 from by decide), if_neg (show ¬ nI 2 = 1 from by decide), if_pos (show nI 2 = 2 from by decide)]
        rw [e, show (nI 2).toInt = 2 from by decide] at hd
        have h0 := hd 0 (by omega)
        have h1 := hd 1 (by omega)
        refine ⟨(show nI 3 = nI 2 + 1 from by decide), fun i hi => ?_⟩
        have hi : (i : Int) < (nI 3).toInt := hi
        rw [show (nI 3).toInt = 3 from by decide] at hi
        rcases (show i = 0 ∨ i = 1 ∨ i = 2 by omega) with rfl | rfl | rfl <;> simp [upd, vp_updL, h0, h1]
      · rw [addK (k := 3) (by decide) e, ← ed, e, if_neg (show ¬ (4 : Int32) ≤ nI 3 from by decide), if_neg (show ¬ nI 3 + 1 - 1 = 0 from by decide), if_neg (show ¬ nI 3 + 1 - 1 = 1 from by decide), if_neg (show ¬ nI 3 + 1 - 1 = 2 from by decide)]
        refine ⟨_, _, (wa, wb), rfl, rfl, ?_⟩
        dsimp only [fnX0_moveToFront]
        rw [if_neg (show ¬ nI 3 = 0 from by decide), if_neg (show ¬ nI 3 = 1 from by decide), if_neg (show ¬ nI 3 = 2 from by decide)]
        rw [e, show (nI 3).toInt = 3 from by decide] at hd
        have h0 := hd 0 (by omega)
        have h1 := hd 1 (by omega)
        have h2 := hd 2 (by omega)
        refine ⟨(show nI 4 = nI 3 + 1 from by decide), fun i hi => ?_⟩
        have hi : (i : Int) < (nI 4).toInt := hi
        rw [show (nI 4).toInt = 4 from by decide] at hi
        rcases (show i = 0 ∨ i = 1 ∨ i = 2 ∨ i = 3 by omega) with rfl | rfl | rfl | rfl <;> simp [upd, vp_updL, h0, h1, h2]
      · rw [add4 e, ← ed, e, if_pos (show (4 : Int32) ≤ nI 4 from by decide)]
        refine ⟨_, _, (wa, wb), rfl, rfl, ?_⟩
        dsimp only [fnX0_moveToFront]
        rw [if_neg (show ¬ (3 : Int32) = 0 from by decide), if_neg (show ¬ (3 : Int32) = 1 from by decide), if_neg (show ¬ (3 : Int32) = 2 from by decide)]
        rw [e, show (nI 4).toInt = 4 from by decide] at hd
        have h0 := hd 0 (by omega)
        have h1 := hd 1 (by omega)
        have h2 := hd 2 (by omega)
        refine ⟨rfl, fun i hi => ?_⟩
        have hi : (i : Int) < ((4 : Int32)).toInt := hi
        rw [show ((4 : Int32)).toInt = 4 from by decide] at hi
        rcases (show i = 0 ∨ i = 1 ∨ i = 2 ∨ i = 3 by omega) with rfl | rfl | rfl | rfl <;> simp [upd, vp_updL, h0, h1, h2]
  · have hn := placeName hk4 hr
    have key : ∀ k : Nat, k < 4 → (¬ nI k = -1) ∧ (0 : Int32) ≤ nI k ∧ (nI k).toNatClampNeg = k := by decide
    obtain ⟨q1, q2, q3⟩ := key k hk4
    have hm := moveD h hc hk4 hk
    have hv := h.2 k hk
    rw [hn] at hm
    rw [hr, if_neg q1, if_pos q2, if_neg (show ¬ (1 : Int32) = 0 from by decide), q3]
    rcases (show k = 0 ∨ k = 1 ∨ k = 2 ∨ k = 3 by omega) with rfl | rfl | rfl | rfl
    · rw [if_pos (by decide)] at hm ⊢
      refine ⟨_, _, (x.2.1.2.1 0, x.2.1.2.2.1 0), rfl, ?_, hm⟩
      rw [← hv.2.1, ← hv.2.2]; rfl
    · rw [if_neg (by decide), if_pos (by decide)] at hm ⊢
      refine ⟨_, _, (x.2.1.2.1 1, x.2.1.2.2.1 1), rfl, ?_, hm⟩
      rw [← hv.2.1, ← hv.2.2]; rfl
    · rw [if_neg (by decide), if_neg (by decide), if_pos (by decide)] at hm ⊢
      refine ⟨_, _, (x.2.1.2.1 2, x.2.1.2.2.1 2), rfl, ?_, hm⟩
      rw [← hv.2.1, ← hv.2.2]; rfl
    · rw [if_neg (by decide), if_neg (by decide), if_neg (by decide)] at hm ⊢
      refine ⟨_, _, (x.2.1.2.1 3, x.2.1.2.2.1 3), rfl, ?_, hm⟩
      rw [← hv.2.1, ← hv.2.2]; rfl
