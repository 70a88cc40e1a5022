/-! looking for a page, both sides -/
def RP (c : TC) (g : TMG) : Prop := c.2.2.2 = g.1 ∧ ∀ i : Nat, (i : Int) < c.2.2.2.toInt → c.1 i = g.2.1 i ∧ c.2.1 i = g.2.2 i ∧ ¬ (g.2.2 i &&& 34359738368 = 0)
theorem RPG {c : TC} {g : TMG} (h : RP c g) : RG c g := ⟨h.1, fun i hi => ⟨(h.2 i hi).1, (h.2 i hi).2.1⟩⟩
/-- the reference with another memory and other pages' copies -/
def sG (v : TM) (M' : Nat → Int64) (G' : TMG) : TM := (v.1, M', v.2.2.1, G', v.2.2.2.2.1, v.2.2.2.2.2.1, v.2.2.2.2.2.2.1, v.2.2.2.2.2.2.2.1, v.2.2.2.2.2.2.2.2.1, v.2.2.2.2.2.2.2.2.2.1, v.2.2.2.2.2.2.2.2.2.2.1, v.2.2.2.2.2.2.2.2.2.2.2.1, v.2.2.2.2.2.2.2.2.2.2.2.2.1, v.2.2.2.2.2.2.2.2.2.2.2.2.2.1, v.2.2.2.2.2.2.2.2.2.2.2.2.2.2)
theorem lookP {x : TS} {v : TM} {s p : Int32} (hw : x.1 = v.2.1) (h : RP x.2.2.1 v.2.2.2.1) (hc : i5 x.2.2.1.2.2.2) :
    ∃ (w w' : Int64) (M' : Nat → Int64) (c' : TC) (G' : TMG), fnX3_lookForPage x s p 1 = (w, (M', x.2.1, c', x.2.2.2)) ∧ fnX5_lookPage v s p (fnX4_sum x.2.2.2.2.2.1 p) = (w', sG v M' G') ∧ RP c' G' ∧ (w' = w ∨ w' = w ||| 17179869184) ∧ (¬ w &&& 34359738368 = 0 → (0 : Int) < c'.2.2.2.toInt) := by
  unfold fnX3_lookForPage fnX5_lookPage
  rw [findP (RPG h) s p, hw]
  dsimp only
  generalize fnX4_sum x.2.2.2.2.2.1 p = q
  generalize hn : 64 * s + p = n
  rcases placeLt (c := x.2.2.1) (n := n) with hr | ⟨k, hk4, hr, hk⟩
  · rw [hr, if_pos rfl, if_neg (show ¬ (0 : Int32) ≤ -1 from by decide), if_neg (show ¬ (1 : Int32) = 0 from by decide)]
    generalize hwa : v.2.1 q.toNatClampNeg = wa
    by_cases ht : (wa &&& 34359738368) = 0
    · rw [if_pos ht, if_pos ht]
      refine ⟨wa, wa, v.2.1, x.2.2.1, v.2.2.2.1, ?_, rfl, h, Or.inl rfl, fun z => absurd ht z⟩
      rw [← hw]
    · rw [if_neg ht, if_neg ht]
      have ht2 : ¬ ((wa ||| 17179869184) &&& 34359738368) = 0 := fun z => ht ((orU wa).mp z)
      generalize hwb : wa ||| 17179869184 = wb at ht2
      obtain ⟨k, hk, e⟩ := cN hc
      obtain ⟨ed, hd⟩ := h
      rcases (show k = 0 ∨ k = 1 ∨ k = 2 ∨ k = 3 ∨ k = 4 by omega) with rfl | rfl | rfl | rfl | rfl
      · rw [addK (k := 0) (by decide) e, ← ed, e, if_neg (show ¬ (4 : Int32) ≤ nI 0 from by decide), if_pos (show nI 0 + 1 - 1 = 0 from by decide)]
        refine ⟨wa, wb, _, _, _, rfl, rfl, ?_, Or.inr hwb.symm, fun _ => ?_⟩
        rotate_left
        · dsimp only [fnX0_moveToFront]
          rw [if_pos (show nI 0 = 0 from by decide)]
          exact (show (0 : Int) < (nI 1).toInt from by decide)
        dsimp only [fnX0_moveToFront]
        rw [if_pos (show nI 0 = 0 from by decide)]
        rw [e, show (nI 0).toInt = 0 from by decide] at hd
        refine ⟨(show nI 1 = nI 0 + 1 from by decide), fun i hi => ?_⟩
        have hi : (i : Int) < (nI 1).toInt := hi
        rw [show (nI 1).toInt = 1 from by decide] at hi
        rcases (show i = 0 by omega) with rfl <;> simp [upd, vp_updL, ht2]
      · rw [addK (k := 1) (by decide) e, ← ed, e, if_neg (show ¬ (4 : Int32) ≤ nI 1 from by decide), if_neg (show ¬ nI 1 + 1 - 1 = 0 from by decide), if_pos (show nI 1 + 1 - 1 = 1 from by decide)]
        refine ⟨wa, wb, _, _, _, rfl, rfl, ?_, Or.inr hwb.symm, fun _ => ?_⟩
        rotate_left
        · dsimp only [fnX0_moveToFront]
          rw [if_neg (show ¬ nI 1 = 0 from by decide), if_pos (show nI 1 = 1 from by decide)]
          exact (show (0 : Int) < (nI 2).toInt from by decide)
        dsimp only [fnX0_moveToFront]
        rw [if_neg (show ¬ nI 1 = 0 from by decide), if_pos (show nI 1 = 1 from by decide)]
        rw [e, show (nI 1).toInt = 1 from by decide] at hd
        have h0 := hd 0 (by omega)
        refine ⟨(show nI 2 = nI 1 + 1 from by decide), fun i hi => ?_⟩
        have hi : (i : Int) < (nI 2).toInt := hi
        rw [show (nI 2).toInt = 2 from by decide] at hi
        rcases (show i = 0 ∨ i = 1 by omega) with rfl | rfl <;> simp [upd, vp_updL, ht2, h0]
      · rw [addK (k := 2) (by decide) e, ← ed, e, if_neg (show ¬ (4 : Int32) ≤ nI 2 from by decide), if_neg (show ¬ nI 2 + 1 - 1 = 0 from by decide), if_neg (show ¬ nI 2 + 1 - 1 = 1 from by decide), if_pos (show nI 2 + 1 - 1 = 2 from by decide)]
        refine ⟨wa, wb, _, _, _, rfl, rfl, ?_, Or.inr hwb.symm, fun _ => ?_⟩
        rotate_left
        · dsimp only [fnX0_moveToFront]
          rw [if_neg (show ¬ nI 2 = 0 from by decide), if_neg (show ¬ nI 2 = 1 from by decide), if_pos (show nI 2 = 2 from by decide)]
          exact (show (0 : Int) < (nI 3).toInt from by decide)
        dsimp only [fnX0_moveToFront]
        rw [if_neg (show ¬ nI 2 = 0 from by decide), if_neg (show ¬ nI 2 = 1 from by decide), if_pos (show nI 2 = 2 from by decide)]
        rw [e, show (nI 2).toInt = 2 from by decide] at hd
        have h0 := hd 0 (by omega)
        have h1 := hd 1 (by omega)
        refine ⟨(show nI 3 = nI 2 + 1 from by decide), fun i hi => ?_⟩
        have hi : (i : Int) < (nI 3).toInt := hi
        rw [show (nI 3).toInt = 3 from by decide] at hi
        rcases (show i = 0 ∨ i = 1 ∨ i = 2 by omega) with rfl | rfl | rfl <;> simp [upd, vp_updL, ht2, h0, h1]
      · rw [addK (k := 3) (by decide) e, ← ed, e, if_neg (show ¬ (4 : Int32) ≤ nI 3 from by decide), if_neg (show ¬ nI 3 + 1 - 1 = 0 from by decide), if_neg (show ¬ nI 3 + 1 - 1 = 1 from by decide), if_neg (show ¬ nI 3 + 1 - 1 = 2 from by decide)]
        refine ⟨wa, wb, _, _, _, rfl, rfl, ?_, Or.inr hwb.symm, fun _ => ?_⟩
        rotate_left
        · dsimp only [fnX0_moveToFront]
          rw [if_neg (show ¬ nI 3 = 0 from by decide), if_neg (show ¬ nI 3 = 1 from by decide), if_neg (show ¬ nI 3 = 2 from by decide)]
          exact (show (0 : Int) < (nI 4).toInt from by decide)
        dsimp only [fnX0_moveToFront]
        rw [if_neg (show ¬ nI 3 = 0 from by decide), if_neg (show ¬ nI 3 = 1 from by decide), if_neg (show ¬ nI 3 = 2 from by decide)]
        rw [e, show (nI 3).toInt = 3 from by decide] at hd
        have h0 := hd 0 (by omega)
        have h1 := hd 1 (by omega)
        have h2 := hd 2 (by omega)
        refine ⟨(show nI 4 = nI 3 + 1 from by decide), fun i hi => ?_⟩
        have hi : (i : Int) < (nI 4).toInt := hi
        rw [show (nI 4).toInt = 4 from by decide] at hi
        rcases (show i = 0 ∨ i = 1 ∨ i = 2 ∨ i = 3 by omega) with rfl | rfl | rfl | rfl <;> simp [upd, vp_updL, ht2, h0, h1, h2]
      · rw [add4 e, ← ed, e, if_pos (show (4 : Int32) ≤ nI 4 from by decide)]
        refine ⟨wa, wb, _, _, _, rfl, rfl, ?_, Or.inr hwb.symm, fun _ => ?_⟩
        rotate_left
        · dsimp only [fnX0_moveToFront]
          rw [if_neg (show ¬ (3 : Int32) = 0 from by decide), if_neg (show ¬ (3 : Int32) = 1 from by decide), if_neg (show ¬ (3 : Int32) = 2 from by decide)]
          exact (show (0 : Int) < ((4 : Int32)).toInt from by decide)
        dsimp only [fnX0_moveToFront]
        rw [if_neg (show ¬ (3 : Int32) = 0 from by decide), if_neg (show ¬ (3 : Int32) = 1 from by decide), if_neg (show ¬ (3 : Int32) = 2 from by decide)]
        rw [e, show (nI 4).toInt = 4 from by decide] at hd
        have h0 := hd 0 (by omega)
        have h1 := hd 1 (by omega)
        have h2 := hd 2 (by omega)
        refine ⟨rfl, fun i hi => ?_⟩
        have hi : (i : Int) < ((4 : Int32)).toInt := hi
        rw [show ((4 : Int32)).toInt = 4 from by decide] at hi
        rcases (show i = 0 ∨ i = 1 ∨ i = 2 ∨ i = 3 by omega) with rfl | rfl | rfl | rfl <;> simp [upd, vp_updL, ht2, h0, h1, h2]
  · have hnm := placeName hk4 hr
    have key : ∀ k : Nat, k < 4 → (¬ nI k = -1) ∧ (0 : Int32) ≤ nI k ∧ (nI k).toNatClampNeg = k := by decide
    obtain ⟨q1, q2, q3⟩ := key k hk4
    obtain ⟨ed, hd⟩ := h
    have hv := hd k hk
    rw [hr, if_neg q1, if_pos q2, if_neg (show ¬ (1 : Int32) = 0 from by decide), q3, if_neg (by rw [hv.2.1]; exact hv.2.2)]
    have hng := hv.1.symm.trans hnm
    rcases (show k = 0 ∨ k = 1 ∨ k = 2 ∨ k = 3 by omega) with rfl | rfl | rfl | rfl
    · rw [if_pos (show nI 0 = 0 from by decide)]
      refine ⟨_, _, v.2.1, _, _, rfl, rfl, ?_, Or.inl hv.2.1.symm, fun _ => ?_⟩
      rotate_left
      · dsimp only [fnX0_moveToFront]
        rw [if_pos (show nI 0 = 0 from by decide)]
        show (0 : Int) < x.2.2.1.2.2.2.toInt
        omega
      dsimp only [fnX0_moveToFront]
      rw [if_pos (show nI 0 = 0 from by decide)]
      refine ⟨ed, fun i hi => ?_⟩
      have hi : (i : Int) < x.2.2.1.2.2.2.toInt := hi
      have hh := hd _ hi
      rcases i4lt hc hi with rfl | rfl | rfl | rfl <;> simp [upd, vp_updL, hng, hh, hv]
    · rw [if_neg (show ¬ nI 1 = 0 from by decide), if_pos (show nI 1 = 1 from by decide)]
      refine ⟨_, _, v.2.1, _, _, rfl, rfl, ?_, Or.inl hv.2.1.symm, fun _ => ?_⟩
      rotate_left
      · dsimp only [fnX0_moveToFront]
        rw [if_neg (show ¬ nI 1 = 0 from by decide), if_pos (show nI 1 = 1 from by decide)]
        show (0 : Int) < x.2.2.1.2.2.2.toInt
        omega
      dsimp only [fnX0_moveToFront]
      rw [if_neg (show ¬ nI 1 = 0 from by decide), if_pos (show nI 1 = 1 from by decide)]
      have h0 := hd 0 (by omega)
      refine ⟨ed, fun i hi => ?_⟩
      have hi : (i : Int) < x.2.2.1.2.2.2.toInt := hi
      have hh := hd _ hi
      rcases i4lt hc hi with rfl | rfl | rfl | rfl <;> simp [upd, vp_updL, hng, hh, hv, h0]
    · rw [if_neg (show ¬ nI 2 = 0 from by decide), if_neg (show ¬ nI 2 = 1 from by decide), if_pos (show nI 2 = 2 from by decide)]
      refine ⟨_, _, v.2.1, _, _, rfl, rfl, ?_, Or.inl hv.2.1.symm, fun _ => ?_⟩
      rotate_left
      · dsimp only [fnX0_moveToFront]
        rw [if_neg (show ¬ nI 2 = 0 from by decide), if_neg (show ¬ nI 2 = 1 from by decide), if_pos (show nI 2 = 2 from by decide)]
        show (0 : Int) < x.2.2.1.2.2.2.toInt
        omega
      dsimp only [fnX0_moveToFront]
      rw [if_neg (show ¬ nI 2 = 0 from by decide), if_neg (show ¬ nI 2 = 1 from by decide), if_pos (show nI 2 = 2 from by decide)]
      have h0 := hd 0 (by omega)
      have h1 := hd 1 (by omega)
      refine ⟨ed, fun i hi => ?_⟩
      have hi : (i : Int) < x.2.2.1.2.2.2.toInt := hi
      have hh := hd _ hi
      rcases i4lt hc hi with rfl | rfl | rfl | rfl <;> simp [upd, vp_updL, hng, hh, hv, h0, h1]
    · rw [if_neg (show ¬ nI 3 = 0 from by decide), if_neg (show ¬ nI 3 = 1 from by decide), if_neg (show ¬ nI 3 = 2 from by decide)]
      refine ⟨_, _, v.2.1, _, _, rfl, rfl, ?_, Or.inl hv.2.1.symm, fun _ => ?_⟩
      rotate_left
      · dsimp only [fnX0_moveToFront]
        rw [if_neg (show ¬ nI 3 = 0 from by decide), if_neg (show ¬ nI 3 = 1 from by decide), if_neg (show ¬ nI 3 = 2 from by decide)]
        show (0 : Int) < x.2.2.1.2.2.2.toInt
        omega
      dsimp only [fnX0_moveToFront]
      rw [if_neg (show ¬ nI 3 = 0 from by decide), if_neg (show ¬ nI 3 = 1 from by decide), if_neg (show ¬ nI 3 = 2 from by decide)]
      have h0 := hd 0 (by omega)
      have h1 := hd 1 (by omega)
      have h2 := hd 2 (by omega)
      refine ⟨ed, fun i hi => ?_⟩
      have hi : (i : Int) < x.2.2.1.2.2.2.toInt := hi
      have hh := hd _ hi
      rcases i4lt hc hi with rfl | rfl | rfl | rfl <;> simp [upd, vp_updL, hng, hh, hv, h0, h1, h2]
