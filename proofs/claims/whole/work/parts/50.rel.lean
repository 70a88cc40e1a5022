/-! one turn of the run, both sides -/
section
variable {th : Int32} {u : TR} {D : TMD} {G : TMG} {P : TMP} {b1 b2 : Int32} {B : TMB} {E : TMQ} {X : TMX} {J : Int32}
theorem enterB {f : Int32} : fnX5_save (mk th u D G P B E X J) (bd f u).1 (bd f u).2.1 (bd f u).2.2 = mk th (fnX4_enter u f) D G P B E X J := by
  unfold fnX5_save fnX4_enter
  have e : (mk th u D G P B E X J).2.2.2.2.2.2.2.2.1.1 = u.2.1.2.1 := rfl
  rw [e]
  by_cases h : 4 < f
  · have hb : bd f u = (f, u.2.2.2.2.1.1, u.2.2.2.2.1.2.1) := if_pos h
    rw [if_pos h]
    by_cases hh : u.2.1.2.1 = 0
    · rw [if_pos hh, if_pos hh, hb]; rfl
    · rw [if_neg hh, if_neg hh, hb]; rfl
  · have hb : bd f u = (f, u.2.2.2.2.2.1.1, u.2.2.2.2.2.1.2.1) := if_neg h
    rw [if_neg h]
    by_cases hh : u.2.1.2.1 = 0
    · rw [if_pos hh, if_pos hh, hb]; rfl
    · rw [if_neg hh, if_neg hh, hb]; rfl
theorem entR {f : Int32} (hC : RC u.2.2.2.2.2.2.2.2.1 D) (hP : RP u.2.2.2.2.2.2.2.2.2.1 G) (hT : RT u.2.2.2.1 P) : Rl th (fnX4_enter u f) (mk th (fnX4_enter u f) D G P B E X J) := by
  refine ⟨D, G, P, B, E, X, J, rfl, ?_, ?_, ?_⟩
  · rw [(enterK u f).1]; exact hC
  · rw [(enterK u f).1]; exact hP
  · rw [(enterK u f).2]; exact hT
abbrev askd (u : TR) : Int32 := u.2.1.2.2.2.2.2.2
def setA (u : TR) (a : Int32) : TR := (u.1, (u.2.1.1, u.2.1.2.1, u.2.1.2.2.1, u.2.1.2.2.2.1, u.2.1.2.2.2.2.1, u.2.1.2.2.2.2.2.1, a), u.2.2.1, u.2.2.2.1, u.2.2.2.2.1, u.2.2.2.2.2.1, u.2.2.2.2.2.2.1, u.2.2.2.2.2.2.2)
theorem interK {a f : Int32} (hf : 4 < f) (hC : RC u.2.2.2.2.2.2.2.2.1 D) (hP : RP u.2.2.2.2.2.2.2.2.2.1 G) (hT : RT u.2.2.2.1 P) : Rl th (fnX4_enter (setA u a) f) (fnX5_save (mk th (setA u a) D G P B E X J) f u.2.2.2.2.1.1 u.2.2.2.2.1.2.1) := by
  have hb : bd f (setA u a) = (f, u.2.2.2.2.1.1, u.2.2.2.2.1.2.1) := if_pos hf
  have h := enterB (th := th) (u := setA u a) (D := D) (G := G) (P := P) (B := B) (E := E) (X := X) (J := J) (f := f)
  rw [hb] at h
  rw [show fnX5_save (mk th (setA u a) D G P B E X J) f u.2.2.2.2.1.1 u.2.2.2.2.1.2.1 = _ from h]
  exact entR (u := setA u a) hC hP hT
theorem intR (hI : iR u) (hh : u.2.1.2.1 = 0) (ha : ¬ askd u = 0) (hC : RC u.2.2.2.2.2.2.2.2.1 D) (hP : RP u.2.2.2.2.2.2.2.2.2.1 G) (hT : RT u.2.2.2.1 P) :
    ¬ (fnX4_takeInterrupt u).1 = 0 ∧ Rl th (fnX4_enter (fnX4_takeInterrupt u).2 (fnX4_takeInterrupt u).1) (inM (mk th u D G P B E X J)) := by
  obtain ⟨j, hj, ej⟩ := i4N (x := askd u) hI.2.1
  have k0 : ∀ j : Nat, j < 16 → ((nI j &&& 1 = 0) ↔ ((nI j >>> ((0 : Int32) &&& 31)) &&& 1) = 0) := by decide
  have k1 : ∀ j : Nat, j < 16 → ((nI j &&& 2 = 0) ↔ ((nI j >>> ((1 : Int32) &&& 31)) &&& 1) = 0) := by decide
  have k2 : ∀ j : Nat, j < 16 → ((nI j &&& 4 = 0) ↔ ((nI j >>> ((2 : Int32) &&& 31)) &&& 1) = 0) := by decide
  have q0 := k0 j hj; have q1 := k1 j hj; have q2 := k2 j hj
  rw [← ej] at q0 q1 q2
  have e : (mk th u D G P B E X J).2.2.2.2.2.2.2.2.1.2.2.1 = askd u := rfl
  unfold fnX4_takeInterrupt inM
  rw [if_pos hh, if_neg ha, e]
  by_cases h0 : askd u &&& 1 = 0
  · rw [if_pos h0, if_pos (q0.mp h0)]
    by_cases h1 : askd u &&& 2 = 0
    · rw [if_pos h1, if_pos (q1.mp h1)]
      by_cases h2 : askd u &&& 4 = 0
      · rw [if_pos h2, if_pos (q2.mp h2)]
        exact ⟨show ¬ (11 : Int32) = 0 from by decide, interK (u := u) (a := askd u &&& -9) (f := 11) (by decide) hC hP hT⟩
      · rw [if_neg h2, if_neg (fun z => h2 (q2.mpr z))]
        exact ⟨show ¬ (10 : Int32) = 0 from by decide, interK (u := u) (a := askd u &&& -5) (f := 10) (by decide) hC hP hT⟩
    · rw [if_neg h1, if_neg (fun z => h1 (q1.mpr z))]
      exact ⟨show ¬ (9 : Int32) = 0 from by decide, interK (u := u) (a := askd u &&& -3) (f := 9) (by decide) hC hP hT⟩
  · rw [if_neg h0, if_neg (fun z => h0 (q0.mpr z))]
    exact ⟨show ¬ (8 : Int32) = 0 from by decide, interK (u := u) (a := askd u &&& -2) (f := 8) (by decide) hC hP hT⟩
theorem le3 {x : Int32} (h : i3 x) (k : ¬ x = 0) : ¬ x ≤ 0 := fun z => k (Int32.toInt_inj.mp (by have := leJ z; rw [show (0 : Int32).toInt = 0 from by decide] at *; have := h.1; omega))
/-- the system's three -/
theorem sysR (hI : iR u) (hC : RC u.2.2.2.2.2.2.2.2.1 D) (hP : RP u.2.2.2.2.2.2.2.2.2.1 G) (hT : RT u.2.2.2.1 P) {k : Int32} (hk : k = 36 ∨ k = 37 ∨ k = 38) : Fin2 th (fnX4_performWithoutAddress u k) (fnX5_system (mk th u D G P (0, b1, b2) E X 0) k) := by
  have e : (mk th u D G P (0, b1, b2) E X 0).2.2.2.2.2.2.2.1.2.2 = u.2.2.2.2.1.2.2 := rfl
  have e2 : (mk th u D G P (0, b1, b2) E X 0).2.2.2.2.2.2.2.2.1.1 = u.2.1.2.1 := rfl
  have e3 : (mk th u D G P (0, b1, b2) E X 0).2.2.2.2.2.2.2.2.2.2.2.1.1 ≤ 0 := by show (0 : Int32) ≤ 0; decide
  by_cases hr : u.2.2.2.2.1.2.2 = 0
  · rcases hk with rfl | rfl | rfl
    · rw [show fnX4_performWithoutAddress u 36 = if u.2.2.2.2.1.2.2 = 0 then ((fnX4_performInRing0 u 36).1, (fnX4_performInRing0 u 36).2) else (7, u) from rfl, if_pos hr, pEta]
      unfold fnX5_system
      rw [e, if_pos (show u.2.2.2.2.1.2.2 ≤ 0 from by rw [hr]; decide), if_neg (show ¬ (36 : Int32) = 37 from by decide), if_pos e3, if_pos rfl]
      unfold fnX4_performInRing0
      rw [if_neg (show ¬ (36 : Int32) = 37 from by decide), if_pos rfl]
      dsimp only
      rw [pEta]
      exact finA (u := (u.1, u.2.1, u.2.2.1, u.2.2.2.1, u.2.2.2.2.1, u.2.2.2.2.2.1, u.2.2.2.2.2.2.1, (u.2.2.2.2.2.2.2.1, (fnX0_clear u.2.2.2.2.2.2.2.2.1), (fnX0_clear u.2.2.2.2.2.2.2.2.2.1), u.2.2.2.2.2.2.2.2.2.2))) (D := (0, D.2.1, D.2.2.1, D.2.2.2)) (G := (0, G.2.1, G.2.2)) ⟨rfl, fun i hi => absurd hi (show ¬ (i : Int) < (0 : Int32).toInt by rw [show (0 : Int32).toInt = 0 from by decide]; omega)⟩ ⟨rfl, fun i hi => absurd hi (show ¬ (i : Int) < (0 : Int32).toInt by rw [show (0 : Int32).toInt = 0 from by decide]; omega)⟩ hT
    · rw [show fnX4_performWithoutAddress u 37 = if u.2.2.2.2.1.2.2 = 0 then ((fnX4_performInRing0 u 37).1, (fnX4_performInRing0 u 37).2) else (7, u) from rfl, if_pos hr, pEta]
      unfold fnX5_system
      rw [e, if_pos (show u.2.2.2.2.1.2.2 ≤ 0 from by rw [hr]; decide), if_pos rfl, e2]
      unfold fnX4_performInRing0
      rw [if_pos rfl]
      dsimp only
      rw [pEta]
      unfold fnX4_goBack
      by_cases hh : u.2.1.2.1 = 0
      · rw [if_pos hh, if_pos hh, wrongH, if_neg (show ¬ (mk th u D G P (6, u.2.2.2.2.1.1, u.2.2.2.2.1.2.1) E X 0).2.2.2.2.2.2.2.2.2.2.2.1.1 ≤ 0 from by show ¬ (6 : Int32) ≤ 0; decide)]
        exact finF (f := 6) (by decide) (by decide) hC hP hT
      · rw [if_neg hh, if_neg hh, if_pos e3, if_neg (show ¬ (37 : Int32) = 36 from by decide), if_neg (show ¬ (37 : Int32) = 38 from by decide)]
        exact finJ (u := (u.1, (u.2.1.1, (0 : Int32), u.2.1.2.2.1, u.2.1.2.2.2.1, u.2.1.2.2.2.2.1, u.2.1.2.2.2.2.2.1, u.2.1.2.2.2.2.2.2), u.2.2.1, u.2.2.2.1, (fnX2_become u.2.2.2.2.1 u.2.2.2.2.2.2.1), u.2.2.2.2.2.1, u.2.2.2.2.2.2.1, u.2.2.2.2.2.2.2)) hC hP hT
    · rw [show fnX4_performWithoutAddress u 38 = if u.2.2.2.2.1.2.2 = 0 then ((fnX4_performInRing0 u 38).1, (fnX4_performInRing0 u 38).2) else (7, u) from rfl, if_pos hr, pEta]
      unfold fnX5_system
      rw [e, if_pos (show u.2.2.2.2.1.2.2 ≤ 0 from by rw [hr]; decide), if_neg (show ¬ (38 : Int32) = 37 from by decide), if_pos e3, if_neg (show ¬ (38 : Int32) = 36 from by decide), if_pos rfl]
      unfold fnX4_performInRing0
      rw [if_neg (show ¬ (38 : Int32) = 37 from by decide), if_neg (show ¬ (38 : Int32) = 36 from by decide)]
      dsimp only
      rw [pEta]
      exact finA (u := (u.1, (u.2.1.1, u.2.1.2.1, (1 : Int32), u.2.1.2.2.2.1, u.2.1.2.2.2.2.1, u.2.1.2.2.2.2.2.1, u.2.1.2.2.2.2.2.2), u.2.2.1, u.2.2.2.1, u.2.2.2.2.1, u.2.2.2.2.2.1, u.2.2.2.2.2.2.1, u.2.2.2.2.2.2.2)) hC hP hT
  · have h7 : fnX4_performWithoutAddress u k = (7, u) := by
      rcases hk with rfl | rfl | rfl
      · rw [show fnX4_performWithoutAddress u 36 = if u.2.2.2.2.1.2.2 = 0 then ((fnX4_performInRing0 u 36).1, (fnX4_performInRing0 u 36).2) else (7, u) from rfl, if_neg hr]
      · rw [show fnX4_performWithoutAddress u 37 = if u.2.2.2.2.1.2.2 = 0 then ((fnX4_performInRing0 u 37).1, (fnX4_performInRing0 u 37).2) else (7, u) from rfl, if_neg hr]
      · rw [show fnX4_performWithoutAddress u 38 = if u.2.2.2.2.1.2.2 = 0 then ((fnX4_performInRing0 u 38).1, (fnX4_performInRing0 u 38).2) else (7, u) from rfl, if_neg hr]
    rw [h7]
    unfold fnX5_system
    rw [e, if_neg (le3 hI.2.2.2.2.1.2.2 hr), wrongH, if_neg (show ¬ (mk th u D G P (7, u.2.2.2.2.1.1, u.2.2.2.2.1.2.1) E X 0).2.2.2.2.2.2.2.2.2.2.2.1.1 ≤ 0 from by show ¬ (7 : Int32) ≤ 0; decide)]
    exact finF (f := 7) (by decide) (by decide) hC hP hT
theorem b6i (w : Int64) (b : Int32) : i6 (fnX5_bits w b 6) := by
  unfold fnX5_bits; rw [show ((1 : Int32) <<< ((6 : Int32) &&& 31)) - 1 = 63 from by decide]; exact mk6 _
end
