/-! the relation between the class's state and the reference's: copies -/
def RC (c : TC) (d : TMD) : Prop := c.2.2.2 = d.1 ∧ ∀ i : Nat, (i : Int) < c.2.2.2.toInt → c.1 i = d.2.1 i ∧ c.2.1 i = d.2.2.1 i ∧ c.2.2.1 i = d.2.2.2 i
def RG (c : TC) (g : TMG) : Prop := c.2.2.2 = g.1 ∧ ∀ i : Nat, (i : Int) < c.2.2.2.toInt → c.1 i = g.2.1 i ∧ c.2.1 i = g.2.2 i
theorem iteE {α : Type} {q : Prop} [Decidable q] {a b b' : α} (hb : ¬ q → b = b') : (if q then a else b) = if q then a else b' := by
  by_cases h : q
  · rw [if_pos h, if_pos h]
  · rw [if_neg h, if_neg h]; exact hb h
theorem iteE2 {α : Type} {q q' : Prop} [Decidable q] [Decidable q'] {a b b' : α} (hq : q ↔ q') (hb : ¬ q → b = b') : (if q then a else b) = if q' then a else b' := by
  by_cases h : q
  · rw [if_pos h, if_pos (hq.mp h)]
  · rw [if_neg h, if_neg (fun z => h (hq.mpr z))]; exact hb h
theorem bf (w : Int64) (a b : Int32) : fnX5_bits w a b = fnX4_field w a b := rfl
theorem gtL {c k : Int32} {n : Int} (h : ¬ c ≤ k) (hk : k.toInt = n) : n < c.toInt := by have := nleJ h; rw [hk] at this; exact this
theorem findD {c : TC} {v : TM} (h : RC c v.2.2.1) (n : Int32) : fnX5_findDescriptor v n = fnX0_placeOf c n := by
  unfold fnX5_findDescriptor fnX0_placeOf
  rw [← h.1]
  refine iteE (fun h0 => ?_)
  refine iteE2 (by rw [(h.2 0 (gtL h0 (by decide))).1]) (fun _ => ?_)
  refine iteE (fun h0 => ?_)
  refine iteE2 (by rw [(h.2 1 (gtL h0 (by decide))).1]) (fun _ => ?_)
  refine iteE (fun h0 => ?_)
  refine iteE2 (by rw [(h.2 2 (gtL h0 (by decide))).1]) (fun _ => ?_)
  refine iteE (fun h0 => ?_)
  exact iteE2 (by rw [(h.2 3 (gtL h0 (by decide))).1]) (fun _ => rfl)
theorem findP {c : TC} {v : TM} (h : RG c v.2.2.2.1) (s p : Int32) : fnX5_findPage v s p = fnX0_placeOf c (64 * s + p) := by
  unfold fnX5_findPage fnX0_placeOf
  rw [← h.1]
  refine iteE (fun h0 => ?_)
  refine iteE2 (by rw [(h.2 0 (gtL h0 (by decide))).1]) (fun _ => ?_)
  refine iteE (fun h0 => ?_)
  refine iteE2 (by rw [(h.2 1 (gtL h0 (by decide))).1]) (fun _ => ?_)
  refine iteE (fun h0 => ?_)
  refine iteE2 (by rw [(h.2 2 (gtL h0 (by decide))).1]) (fun _ => ?_)
  refine iteE (fun h0 => ?_)
  exact iteE2 (by rw [(h.2 3 (gtL h0 (by decide))).1]) (fun _ => rfl)
/-- where a copy was found, it stands below the count -/
theorem placeLt {c : TC} {n : Int32} : fnX0_placeOf c n = -1 ∨ ∃ k : Nat, k < 4 ∧ fnX0_placeOf c n = nI k ∧ (k : Int) < c.2.2.2.toInt := by
  unfold fnX0_placeOf
  by_cases h0 : c.2.2.2 ≤ 0
  · rw [if_pos h0]; exact Or.inl rfl
  · rw [if_neg h0]
    by_cases g0 : c.1 0 = n
    · rw [if_pos g0]; exact Or.inr ⟨0, by decide, rfl, gtL h0 (by decide)⟩
    · rw [if_neg g0]
      by_cases h1 : c.2.2.2 ≤ 1
      · rw [if_pos h1]; exact Or.inl rfl
      · rw [if_neg h1]
        by_cases g1 : c.1 1 = n
        · rw [if_pos g1]; exact Or.inr ⟨1, by decide, rfl, gtL h1 (by decide)⟩
        · rw [if_neg g1]
          by_cases h2 : c.2.2.2 ≤ 2
          · rw [if_pos h2]; exact Or.inl rfl
          · rw [if_neg h2]
            by_cases g2 : c.1 2 = n
            · rw [if_pos g2]; exact Or.inr ⟨2, by decide, rfl, gtL h2 (by decide)⟩
            · rw [if_neg g2]
              by_cases h3 : c.2.2.2 ≤ 3
              · rw [if_pos h3]; exact Or.inl rfl
              · rw [if_neg h3]
                by_cases g3 : c.1 3 = n
                · rw [if_pos g3]; exact Or.inr ⟨3, by decide, rfl, gtL h3 (by decide)⟩
                · rw [if_neg g3]; exact Or.inl rfl
/-- the reference with other descriptors' copies and other two words -/
def sD (v : TM) (D' : TMD) (X' : TMX) : TM := (v.1, v.2.1, D', v.2.2.2.1, v.2.2.2.2.1, v.2.2.2.2.2.1, v.2.2.2.2.2.2.1, v.2.2.2.2.2.2.2.1, v.2.2.2.2.2.2.2.2.1, v.2.2.2.2.2.2.2.2.2.1, v.2.2.2.2.2.2.2.2.2.2.1, v.2.2.2.2.2.2.2.2.2.2.2.1, v.2.2.2.2.2.2.2.2.2.2.2.2.1, X', v.2.2.2.2.2.2.2.2.2.2.2.2.2.2)
theorem i4lt {i : Nat} {c : Int32} (h : i5 c) (hi : (i : Int) < c.toInt) : i = 0 ∨ i = 1 ∨ i = 2 ∨ i = 3 := by have := h.2; omega
theorem updT {f : Nat → Int32} {k : Nat} {x : Int32} : upd f k x k = x := pk_us
/-- a copy that is there comes to the front -/
theorem moveD {c : TC} {d : TMD} {k : Nat} (h : RC c d) (hc : i5 c.2.2.2) (hk4 : k < 4) (hk : (k : Int) < c.2.2.2.toInt) :
    RC (fnX0_moveToFront c (nI k)) (if nI k = 0 then (d.1, upd d.2.1 0 (c.1 k), vp_updL d.2.2.1 0 (c.2.1 k), vp_updL d.2.2.2 0 (c.2.2.1 k)) else if nI k = 1 then (d.1, upd (upd d.2.1 1 (d.2.1 0)) 0 (c.1 k), vp_updL (vp_updL d.2.2.1 1 (d.2.2.1 0)) 0 (c.2.1 k), vp_updL (vp_updL d.2.2.2 1 (d.2.2.2 0)) 0 (c.2.2.1 k))
      else if nI k = 2 then (d.1, upd (upd (upd d.2.1 2 (d.2.1 1)) 1 ((upd d.2.1 2 (d.2.1 1)) 0)) 0 (c.1 k), vp_updL (vp_updL (vp_updL d.2.2.1 2 (d.2.2.1 1)) 1 ((vp_updL d.2.2.1 2 (d.2.2.1 1)) 0)) 0 (c.2.1 k), vp_updL (vp_updL (vp_updL d.2.2.2 2 (d.2.2.2 1)) 1 ((vp_updL d.2.2.2 2 (d.2.2.2 1)) 0)) 0 (c.2.2.1 k))
      else (d.1, upd (upd (upd (upd d.2.1 3 (d.2.1 2)) 2 ((upd d.2.1 3 (d.2.1 2)) 1)) 1 ((upd (upd d.2.1 3 (d.2.1 2)) 2 ((upd d.2.1 3 (d.2.1 2)) 1)) 0)) 0 (c.1 k), vp_updL (vp_updL (vp_updL (vp_updL d.2.2.1 3 (d.2.2.1 2)) 2 ((vp_updL d.2.2.1 3 (d.2.2.1 2)) 1)) 1 ((vp_updL (vp_updL d.2.2.1 3 (d.2.2.1 2)) 2 ((vp_updL d.2.2.1 3 (d.2.2.1 2)) 1)) 0)) 0 (c.2.1 k), vp_updL (vp_updL (vp_updL (vp_updL d.2.2.2 3 (d.2.2.2 2)) 2 ((vp_updL d.2.2.2 3 (d.2.2.2 2)) 1)) 1 ((vp_updL (vp_updL d.2.2.2 3 (d.2.2.2 2)) 2 ((vp_updL d.2.2.2 3 (d.2.2.2 2)) 1)) 0)) 0 (c.2.2.1 k))) := by
  obtain ⟨e, h⟩ := h
  unfold fnX0_moveToFront
  rcases (show k = 0 ∨ k = 1 ∨ k = 2 ∨ k = 3 by omega) with rfl | rfl | rfl | rfl
  · rw [if_pos (show nI 0 = 0 from by decide), if_pos (show nI 0 = 0 from by decide)]
    refine ⟨e, fun i hi => ?_⟩
    have hi : (i : Int) < c.2.2.2.toInt := hi
    rcases i4lt hc hi with rfl | rfl | rfl | rfl <;> simp [upd, vp_updL, h _ hi]
  · rw [if_neg (show ¬ nI 1 = 0 from by decide), if_neg (show ¬ nI 1 = 0 from by decide), if_pos (show nI 1 = 1 from by decide), if_pos (show nI 1 = 1 from by decide)]
    refine ⟨e, fun i hi => ?_⟩
    have hi : (i : Int) < c.2.2.2.toInt := hi
    have h0 := h 0 (by omega)
    rcases i4lt hc hi with rfl | rfl | rfl | rfl <;> simp [upd, vp_updL, h0, h _ hi]
  · rw [if_neg (show ¬ nI 2 = 0 from by decide), if_neg (show ¬ nI 2 = 0 from by decide), if_neg (show ¬ nI 2 = 1 from by decide), if_neg (show ¬ nI 2 = 1 from by decide), if_pos (show nI 2 = 2 from by decide), if_pos (show nI 2 = 2 from by decide)]
    refine ⟨e, fun i hi => ?_⟩
    have hi : (i : Int) < c.2.2.2.toInt := hi
    have h0 := h 0 (by omega); have h1 := h 1 (by omega)
    rcases i4lt hc hi with rfl | rfl | rfl | rfl <;> simp [upd, vp_updL, h0, h1, h _ hi]
  · rw [if_neg (show ¬ nI 3 = 0 from by decide), if_neg (show ¬ nI 3 = 0 from by decide), if_neg (show ¬ nI 3 = 1 from by decide), if_neg (show ¬ nI 3 = 1 from by decide), if_neg (show ¬ nI 3 = 2 from by decide), if_neg (show ¬ nI 3 = 2 from by decide)]
    refine ⟨e, fun i hi => ?_⟩
    have hi : (i : Int) < c.2.2.2.toInt := hi
    have h0 := h 0 (by omega); have h1 := h 1 (by omega); have h2 := h 2 (by omega)
    rcases i4lt hc hi with rfl | rfl | rfl | rfl <;> simp [upd, vp_updL, h0, h1, h2, h _ hi]
