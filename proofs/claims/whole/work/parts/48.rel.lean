/-! calls, returns and the system's instructions, both sides -/
theorem pEta {α β : Type} (p : α × β) : (p.1, p.2) = p := rfl
section
variable {th : Int32} {u : TR} {D : TMD} {G : TMG} {P : TMP} {b1 b2 : Int32} {E : TMQ} {X : TMX}
theorem rt0 {ps : T4} {t : TP} (hT : RT ps P) : RT (t, ps.2.1, ps.2.2.1, ps.2.2.2) (upd P.1 0 t.1, upd P.2.1 0 t.2.1, upd P.2.2 0 t.2.2) := by
  refine ⟨?_, ?_, ?_, ?_⟩
  · show t = (upd P.1 0 t.1 0, upd P.2.1 0 t.2.1 0, upd P.2.2 0 t.2.2 0); rw [pk_us, pk_us, pk_us]
  · show ps.2.1 = (upd P.1 0 t.1 1, upd P.2.1 0 t.2.1 1, upd P.2.2 0 t.2.2 1); rw [pk_un (by decide), pk_un (by decide), pk_un (by decide)]; exact hT.2.1
  · show ps.2.2.1 = (upd P.1 0 t.1 2, upd P.2.1 0 t.2.1 2, upd P.2.2 0 t.2.2 2); rw [pk_un (by decide), pk_un (by decide), pk_un (by decide)]; exact hT.2.2.1
  · show ps.2.2.2 = (upd P.1 0 t.1 3, upd P.2.1 0 t.2.1 3, upd P.2.2 0 t.2.2 3); rw [pk_un (by decide), pk_un (by decide), pk_un (by decide)]; exact hT.2.2.2
theorem rt1 {ps : T4} {t : TP} (hT : RT ps P) : RT (ps.1, t, ps.2.2.1, ps.2.2.2) (upd P.1 1 t.1, upd P.2.1 1 t.2.1, upd P.2.2 1 t.2.2) := by
  refine ⟨?_, ?_, ?_, ?_⟩
  · show ps.1 = (upd P.1 1 t.1 0, upd P.2.1 1 t.2.1 0, upd P.2.2 1 t.2.2 0); rw [pk_un (by decide), pk_un (by decide), pk_un (by decide)]; exact hT.1
  · show t = (upd P.1 1 t.1 1, upd P.2.1 1 t.2.1 1, upd P.2.2 1 t.2.2 1); rw [pk_us, pk_us, pk_us]
  · show ps.2.2.1 = (upd P.1 1 t.1 2, upd P.2.1 1 t.2.1 2, upd P.2.2 1 t.2.2 2); rw [pk_un (by decide), pk_un (by decide), pk_un (by decide)]; exact hT.2.2.1
  · show ps.2.2.2 = (upd P.1 1 t.1 3, upd P.2.1 1 t.2.1 3, upd P.2.2 1 t.2.2 3); rw [pk_un (by decide), pk_un (by decide), pk_un (by decide)]; exact hT.2.2.2
theorem rt2 {ps : T4} {t : TP} (hT : RT ps P) : RT (ps.1, ps.2.1, t, ps.2.2.2) (upd P.1 2 t.1, upd P.2.1 2 t.2.1, upd P.2.2 2 t.2.2) := by
  refine ⟨?_, ?_, ?_, ?_⟩
  · show ps.1 = (upd P.1 2 t.1 0, upd P.2.1 2 t.2.1 0, upd P.2.2 2 t.2.2 0); rw [pk_un (by decide), pk_un (by decide), pk_un (by decide)]; exact hT.1
  · show ps.2.1 = (upd P.1 2 t.1 1, upd P.2.1 2 t.2.1 1, upd P.2.2 2 t.2.2 1); rw [pk_un (by decide), pk_un (by decide), pk_un (by decide)]; exact hT.2.1
  · show t = (upd P.1 2 t.1 2, upd P.2.1 2 t.2.1 2, upd P.2.2 2 t.2.2 2); rw [pk_us, pk_us, pk_us]
  · show ps.2.2.2 = (upd P.1 2 t.1 3, upd P.2.1 2 t.2.1 3, upd P.2.2 2 t.2.2 3); rw [pk_un (by decide), pk_un (by decide), pk_un (by decide)]; exact hT.2.2.2
theorem rt3 {ps : T4} {t : TP} (hT : RT ps P) : RT (ps.1, ps.2.1, ps.2.2.1, t) (upd P.1 3 t.1, upd P.2.1 3 t.2.1, upd P.2.2 3 t.2.2) := by
  refine ⟨?_, ?_, ?_, ?_⟩
  · show ps.1 = (upd P.1 3 t.1 0, upd P.2.1 3 t.2.1 0, upd P.2.2 3 t.2.2 0); rw [pk_un (by decide), pk_un (by decide), pk_un (by decide)]; exact hT.1
  · show ps.2.1 = (upd P.1 3 t.1 1, upd P.2.1 3 t.2.1 1, upd P.2.2 3 t.2.2 1); rw [pk_un (by decide), pk_un (by decide), pk_un (by decide)]; exact hT.2.1
  · show ps.2.2.1 = (upd P.1 3 t.1 2, upd P.2.1 3 t.2.1 2, upd P.2.2 3 t.2.2 2); rw [pk_un (by decide), pk_un (by decide), pk_un (by decide)]; exact hT.2.2.1
  · show t = (upd P.1 3 t.1 3, upd P.2.1 3 t.2.1 3, upd P.2.2 3 t.2.2 3); rw [pk_us, pk_us, pk_us]
theorem backR (hI : iR u) (hC : RC u.2.2.2.2.2.2.2.2.1 D) (hP : RP u.2.2.2.2.2.2.2.2.2.1 G) (hT : RT u.2.2.2.1 P) : Fin2 th (fnX4_returnByWord u) (fnX5_back (mk th u D G P (0, b1, b2) u.2.2.2.2.2.1 X 0)) := by
  obtain ⟨x', D', G', X', h1, h2, h3, h4, h6⟩ := hereR (th := th) (b1 := b1) (b2 := b2) (X := X) hI hC hP hT
  unfold fnX4_returnByWord fnX5_back
  rcases h6 with ⟨q, hq, e1, e2⟩ | ⟨f, hf, e1, e2⟩
  · rw [e1, e2]
    dsimp only
    rw [if_pos (ge36 hq), if_pos (show (mk th (setS u x') D' G' P (0, b1, b2) u.2.2.2.2.2.1 X' 0).2.2.2.2.2.2.2.2.2.2.2.1.1 = 0 from rfl)]
    by_cases h : fnX5_bits q 33 3 = 1
    · rw [if_pos (show fnX4_field q 33 3 = 1 from h), if_pos h, if_pos (show (mk th (setS u x') D' G' P (0, b1, b2) u.2.2.2.2.2.1 X' 0).2.2.2.2.2.2.2.2.2.2.2.1.1 ≤ 0 from by show (0 : Int32) ≤ 0; decide), grE, grE]
      exact finJ (u := (u.1, u.2.1, u.2.2.1, u.2.2.2.1, (fnX5_bits q 24 4, fnX5_bits q 0 12, if (if u.2.2.2.2.1.2.2 < u.2.2.2.2.2.1.2.2 then u.2.2.2.2.2.1.2.2 else u.2.2.2.2.1.2.2) < fnX5_bits q 21 3 then fnX5_bits q 21 3 else (if u.2.2.2.2.1.2.2 < u.2.2.2.2.2.1.2.2 then u.2.2.2.2.2.1.2.2 else u.2.2.2.2.1.2.2)), u.2.2.2.2.2.1, u.2.2.2.2.2.2.1, x')) h3 h4 hT
    · rw [if_neg (show ¬ fnX4_field q 33 3 = 1 from h), if_neg h, wrongH]
      rw [if_neg (show ¬ (mk th (setS u x') D' G' P (6, (setS u x').2.2.2.2.1.1, (setS u x').2.2.2.2.1.2.1) u.2.2.2.2.2.1 X' 0).2.2.2.2.2.2.2.2.2.2.2.1.1 ≤ 0 from by show ¬ (6 : Int32) ≤ 0; decide)]
      exact finF (u := setS u x') (f := 6) (by decide) (by decide) h3 h4 hT
  · rw [e1, e2]
    dsimp only
    rw [if_neg (ftN hf).2.1, (ftN hf).2.2, if_neg (show ¬ (mk th (setS u x') D' G' P (f, u.2.2.2.2.2.1.1, u.2.2.2.2.2.1.2.1) u.2.2.2.2.2.1 X' 0).2.2.2.2.2.2.2.2.2.2.2.1.1 = 0 from (ftZ hf).1), if_neg (show ¬ (mk th (setS u x') D' G' P (f, u.2.2.2.2.2.1.1, u.2.2.2.2.2.1.2.1) u.2.2.2.2.2.1 X' 0).2.2.2.2.2.2.2.2.2.2.2.1.1 ≤ 0 from (ftZ hf).2)]
    exact finFt (u := setS u x') hf h3 h4 hT
theorem traN (hC : RC u.2.2.2.2.2.2.2.2.1 D) (hP : RP u.2.2.2.2.2.2.2.2.2.1 G) (hT : RT u.2.2.2.1 P) : Fin2 th (fnX4_transfer u 0) (mk th u D G P (0, b1, b2) u.2.2.2.2.2.1 X 0) := by
  unfold fnX4_transfer
  rw [if_pos rfl]
  dsimp only
  rw [pEta]
  exact finA hC hP hT
theorem neR {x : Int32} (h : i3 x) : ¬ x = -1 := nq_i3 h
theorem b3i (w : Int64) (b : Int32) : i3 (fnX5_bits w b 3) := by
  unfold fnX5_bits; rw [show ((1 : Int32) <<< ((3 : Int32) &&& 31)) - 1 = 7 from by decide]; exact mk3 _
theorem callR (hI : iR u) (hC : RC u.2.2.2.2.2.2.2.2.1 D) (hP : RP u.2.2.2.2.2.2.2.2.2.1 G) (hT : RT u.2.2.2.1 P) : Fin2 th (fnX4_callAddress u) (fnX5_call (mk th u D G P (0, b1, b2) u.2.2.2.2.2.1 X 0)) := by
  obtain ⟨c', D', X', e1, e2, h1⟩ := lookD (x := u.2.2.2.2.2.2.2) (v := (mk th u D G P (0, b1, b2) u.2.2.2.2.2.1 X 0)) (s := u.2.2.2.2.2.1.1) rfl hC hI.2.2.2.2.2.2.2.2.1.2
  rw [becE] at e1
  unfold fnX4_callAddress fnX5_call
  rw [e1, show fnX5_look (mk th u D G P (0, b1, b2) u.2.2.2.2.2.1 X 0) (mk th u D G P (0, b1, b2) u.2.2.2.2.2.1 X 0).2.2.2.2.2.2.2.2.2.2.2.2.1.1 = sD (mk th u D G P (0, b1, b2) u.2.2.2.2.2.1 X 0) D' X' from e2]
  rw [show sD (mk th u D G P (0, b1, b2) u.2.2.2.2.2.1 X 0) D' X' = mk th (setS u (u.2.2.2.2.2.2.2.1, c', u.2.2.2.2.2.2.2.2.2.1, dsc X'.1 X'.2)) D' G P (0, b1, b2) u.2.2.2.2.2.1 X' 0 from rfl]
  generalize hx : (u.2.2.2.2.2.2.2.1, c', u.2.2.2.2.2.2.2.2.2.1, dsc X'.1 X'.2) = x'
  have h3 : RC x'.2.1 D' := by rw [← hx]; exact h1
  have hP : RP x'.2.2.1 G := by rw [← hx]; exact hP
  have hd : x'.2.2.2 = dsc X'.1 X'.2 := by rw [← hx]
  dsimp only
  rw [hd]
  have hz : (mk th (setS u x') D' G P (0, b1, b2) u.2.2.2.2.2.1 X' 0).2.2.2.2.2.2.2.2.2.2.2.2.2.1.1 = X'.1 := rfl
  have hz2 : (mk th (setS u x') D' G P (0, b1, b2) u.2.2.2.2.2.1 X' 0).2.2.2.2.2.2.2.2.2.2.2.2.2.1.2 = X'.2 := rfl
  have hz3 : (mk th (setS u x') D' G P (0, b1, b2) u.2.2.2.2.2.1 X' 0).2.2.2.2.2.2.2.2.2.2.2.2.1 = u.2.2.2.2.2.1 := rfl
  by_cases ht : X'.1 &&& 34359738368 = 0
  · rw [if_pos (show (dsc X'.1 X'.2).1 = 0 from z1.mpr ht), hz, if_pos ht, wrong0]
    rw [if_neg (show ¬ (mk th (setS u x') D' G P (1, (mk th (setS u x') D' G P (0, b1, b2) u.2.2.2.2.2.1 X' 0).2.2.2.2.2.2.2.2.2.2.2.2.1.1, (mk th (setS u x') D' G P (0, b1, b2) u.2.2.2.2.2.1 X' 0).2.2.2.2.2.2.2.2.2.2.2.2.1.2.1) u.2.2.2.2.2.1 X' 0).2.2.2.2.2.2.2.2.2.2.2.1.1 ≤ 0 from by show ¬ (1 : Int32) ≤ 0; decide)]
    exact finFt (u := setS u x') (Or.inl rfl) h3 hP hT
  · rw [if_neg (show ¬ (dsc X'.1 X'.2).1 = 0 from fun z => ht (z1.mp z)), hz, if_neg ht, hz2, hz3]
    by_cases hx : X'.2 &&& 2048 = 0
    · rw [if_pos (show (dsc X'.1 X'.2).2.2.2.2.2.2.2.2.2.1 = 0 from z1.mpr hx), if_pos ((bt0 (M := 2048) 11 (by decide) (by decide) (by decide)).mpr hx), wrong0]
      rw [if_neg (show ¬ (mk th (setS u x') D' G P (4, u.2.2.2.2.2.1.1, u.2.2.2.2.2.1.2.1) u.2.2.2.2.2.1 X' 0).2.2.2.2.2.2.2.2.2.2.2.1.1 ≤ 0 from by show ¬ (4 : Int32) ≤ 0; decide)]
      exact finFt (u := setS u x') (Or.inr (Or.inr (Or.inr rfl))) h3 hP hT
    · rw [if_neg (show ¬ (dsc X'.1 X'.2).2.2.2.2.2.2.2.2.2.1 = 0 from fun z => hx (z1.mp z)), if_neg (show ¬ fnX5_bits X'.2 11 1 = 0 from fun z => hx ((bt0 (M := 2048) 11 (by decide) (by decide) (by decide)).mp z))]
      rw [if_pos (show (mk th (setS u x') D' G P (0, b1, b2) u.2.2.2.2.2.1 X' 0).2.2.2.2.2.2.2.2.2.2.2.1.1 ≤ 0 from by show (0 : Int32) ≤ 0; decide)]
      have hring : fnX1_ringOfCall (dsc X'.1 X'.2) u.2.2.2.2.2.1.2.1 u.2.2.2.2.2.1.2.2 = (if u.2.2.2.2.2.1.2.2 < fnX5_bits X'.2 0 3 then if u.2.2.2.2.2.1.2.2 ≤ fnX5_bits X'.2 3 3 then -1 else if fnX5_bits X'.2 6 3 < u.2.2.2.2.2.1.2.2 then -1 else if fnX5_bits X'.2 12 12 ≤ u.2.2.2.2.2.1.2.1 then -1 else fnX5_bits X'.2 3 3 else if fnX5_bits X'.2 3 3 < u.2.2.2.2.2.1.2.2 then if fnX5_bits X'.2 6 3 < u.2.2.2.2.2.1.2.2 then -1 else if fnX5_bits X'.2 12 12 ≤ u.2.2.2.2.2.1.2.1 then -1 else fnX5_bits X'.2 3 3 else u.2.2.2.2.2.1.2.2) := rfl
      rw [hring]
      by_cases g1 : u.2.2.2.2.2.1.2.2 < fnX5_bits X'.2 0 3
      · rw [if_pos g1, if_pos g1]
        by_cases g2 : u.2.2.2.2.2.1.2.2 ≤ fnX5_bits X'.2 3 3
        · rw [if_pos g2, if_pos g2, if_pos rfl, wrongH]
          exact finF (u := setS u x') (f := 5) (by decide) (by decide) h3 hP hT
        · rw [if_neg g2, if_neg g2]
          by_cases g3 : fnX5_bits X'.2 6 3 < u.2.2.2.2.2.1.2.2
          · rw [if_pos g3, if_pos g3, if_pos rfl, wrongH]
            exact finF (u := setS u x') (f := 5) (by decide) (by decide) h3 hP hT
          · rw [if_neg g3, if_neg g3]
            by_cases g4 : fnX5_bits X'.2 12 12 ≤ u.2.2.2.2.2.1.2.1
            · rw [if_pos g4, if_pos g4, if_pos rfl, wrongH]
              exact finF (u := setS u x') (f := 5) (by decide) (by decide) h3 hP hT
            · rw [if_neg g4, if_neg g4, if_neg (neR (b3i _ _))]
              exact finJ (u := (u.1, u.2.1, u.2.2.1, ((u.2.2.2.2.1.1, (u.2.2.2.2.1.2.1 + 1) &&& 4095, u.2.2.2.2.1.2.2), u.2.2.2.1.2.1, u.2.2.2.1.2.2.1, u.2.2.2.1.2.2.2), (u.2.2.2.2.2.1.1, u.2.2.2.2.2.1.2.1, fnX5_bits X'.2 3 3), u.2.2.2.2.2.1, u.2.2.2.2.2.2.1, x')) h3 hP (rt0 (t := (u.2.2.2.2.1.1, (u.2.2.2.2.1.2.1 + 1) &&& 4095, u.2.2.2.2.1.2.2)) hT)
      · rw [if_neg g1, if_neg g1]
        by_cases g2 : fnX5_bits X'.2 3 3 < u.2.2.2.2.2.1.2.2
        · rw [if_pos g2, if_pos g2]
          by_cases g3 : fnX5_bits X'.2 6 3 < u.2.2.2.2.2.1.2.2
          · rw [if_pos g3, if_pos g3, if_pos rfl, wrongH]
            exact finF (u := setS u x') (f := 5) (by decide) (by decide) h3 hP hT
          · rw [if_neg g3, if_neg g3]
            by_cases g4 : fnX5_bits X'.2 12 12 ≤ u.2.2.2.2.2.1.2.1
            · rw [if_pos g4, if_pos g4, if_pos rfl, wrongH]
              exact finF (u := setS u x') (f := 5) (by decide) (by decide) h3 hP hT
            · rw [if_neg g4, if_neg g4, if_neg (neR (b3i _ _))]
              exact finJ (u := (u.1, u.2.1, u.2.2.1, ((u.2.2.2.2.1.1, (u.2.2.2.2.1.2.1 + 1) &&& 4095, u.2.2.2.2.1.2.2), u.2.2.2.1.2.1, u.2.2.2.1.2.2.1, u.2.2.2.1.2.2.2), (u.2.2.2.2.2.1.1, u.2.2.2.2.2.1.2.1, fnX5_bits X'.2 3 3), u.2.2.2.2.2.1, u.2.2.2.2.2.2.1, x')) h3 hP (rt0 (t := (u.2.2.2.2.1.1, (u.2.2.2.2.1.2.1 + 1) &&& 4095, u.2.2.2.2.1.2.2)) hT)
        · rw [if_neg g2, if_neg g2, if_neg (neR hI.2.2.2.2.2.1.2.2)]
          exact finJ (u := (u.1, u.2.1, u.2.2.1, ((u.2.2.2.2.1.1, (u.2.2.2.2.1.2.1 + 1) &&& 4095, u.2.2.2.2.1.2.2), u.2.2.2.1.2.1, u.2.2.2.1.2.2.1, u.2.2.2.1.2.2.2), (u.2.2.2.2.2.1.1, u.2.2.2.2.2.1.2.1, u.2.2.2.2.2.1.2.2), u.2.2.2.2.2.1, u.2.2.2.2.2.2.1, x')) h3 hP (rt0 (t := (u.2.2.2.2.1.1, (u.2.2.2.2.1.2.1 + 1) &&& 4095, u.2.2.2.2.1.2.2)) hT)
theorem act1 (hI : iR u) (hC : RC u.2.2.2.2.2.2.2.2.1 D) (hP : RP u.2.2.2.2.2.2.2.2.2.1 G) (hT : RT u.2.2.2.1 P) : Fin2 th (fnX4_performAtAddress u 1) (fnX5_act (mk th u D G P (0, b1, b2) u.2.2.2.2.2.1 X 0) 1) := by
  rw [show fnX4_performAtAddress u 1 = ((fnX4_load u 1).1, (fnX4_load u 1).2) from rfl, pEta]
  unfold fnX5_act
  rw [if_neg (show ¬ (11 : Int32) ≤ 1 from by decide), if_neg (show ¬ (1 : Int32) = 2 from by decide), if_neg (show ¬ (1 : Int32) = 10 from by decide)]
  exact loadR1 hI hC hP hT
theorem act2 (hI : iR u) (hC : RC u.2.2.2.2.2.2.2.2.1 D) (hP : RP u.2.2.2.2.2.2.2.2.2.1 G) (hT : RT u.2.2.2.1 P) : Fin2 th (fnX4_performAtAddress u 2) (fnX5_act (mk th u D G P (0, b1, b2) u.2.2.2.2.2.1 X 0) 2) := by
  rw [show fnX4_performAtAddress u 2 = ((fnX4_put u u.1.1).1, (fnX4_put u u.1.1).2) from rfl, pEta]
  unfold fnX5_act
  rw [if_neg (show ¬ (11 : Int32) ≤ 2 from by decide), if_pos rfl]
  exact putR hI hC hP hT (i36m hI.1.1) hI.1.1
theorem act3 (hI : iR u) (hC : RC u.2.2.2.2.2.2.2.2.1 D) (hP : RP u.2.2.2.2.2.2.2.2.2.1 G) (hT : RT u.2.2.2.1 P) : Fin2 th (fnX4_performAtAddress u 3) (fnX5_act (mk th u D G P (0, b1, b2) u.2.2.2.2.2.1 X 0) 3) := by
  rw [show fnX4_performAtAddress u 3 = ((fnX4_load u 3).1, (fnX4_load u 3).2) from rfl, pEta]
  unfold fnX5_act
  rw [if_neg (show ¬ (11 : Int32) ≤ 3 from by decide), if_neg (show ¬ (3 : Int32) = 2 from by decide), if_neg (show ¬ (3 : Int32) = 10 from by decide)]
  exact loadR3 hI hC hP hT
theorem act4 (hI : iR u) (hC : RC u.2.2.2.2.2.2.2.2.1 D) (hP : RP u.2.2.2.2.2.2.2.2.2.1 G) (hT : RT u.2.2.2.1 P) : Fin2 th (fnX4_performAtAddress u 4) (fnX5_act (mk th u D G P (0, b1, b2) u.2.2.2.2.2.1 X 0) 4) := by
  rw [show fnX4_performAtAddress u 4 = ((fnX4_load u 4).1, (fnX4_load u 4).2) from rfl, pEta]
  unfold fnX5_act
  rw [if_neg (show ¬ (11 : Int32) ≤ 4 from by decide), if_neg (show ¬ (4 : Int32) = 2 from by decide), if_neg (show ¬ (4 : Int32) = 10 from by decide)]
  exact loadR4 hI hC hP hT
theorem act5 (hI : iR u) (hC : RC u.2.2.2.2.2.2.2.2.1 D) (hP : RP u.2.2.2.2.2.2.2.2.2.1 G) (hT : RT u.2.2.2.1 P) : Fin2 th (fnX4_performAtAddress u 5) (fnX5_act (mk th u D G P (0, b1, b2) u.2.2.2.2.2.1 X 0) 5) := by
  rw [show fnX4_performAtAddress u 5 = ((fnX4_load u 5).1, (fnX4_load u 5).2) from rfl, pEta]
  unfold fnX5_act
  rw [if_neg (show ¬ (11 : Int32) ≤ 5 from by decide), if_neg (show ¬ (5 : Int32) = 2 from by decide), if_neg (show ¬ (5 : Int32) = 10 from by decide)]
  exact loadR5 hI hC hP hT
theorem act6 (hI : iR u) (hC : RC u.2.2.2.2.2.2.2.2.1 D) (hP : RP u.2.2.2.2.2.2.2.2.2.1 G) (hT : RT u.2.2.2.1 P) : Fin2 th (fnX4_performAtAddress u 6) (fnX5_act (mk th u D G P (0, b1, b2) u.2.2.2.2.2.1 X 0) 6) := by
  rw [show fnX4_performAtAddress u 6 = ((fnX4_load u 6).1, (fnX4_load u 6).2) from rfl, pEta]
  unfold fnX5_act
  rw [if_neg (show ¬ (11 : Int32) ≤ 6 from by decide), if_neg (show ¬ (6 : Int32) = 2 from by decide), if_neg (show ¬ (6 : Int32) = 10 from by decide)]
  exact loadR6 hI hC hP hT
theorem act7 (hI : iR u) (hC : RC u.2.2.2.2.2.2.2.2.1 D) (hP : RP u.2.2.2.2.2.2.2.2.2.1 G) (hT : RT u.2.2.2.1 P) : Fin2 th (fnX4_performAtAddress u 7) (fnX5_act (mk th u D G P (0, b1, b2) u.2.2.2.2.2.1 X 0) 7) := by
  rw [show fnX4_performAtAddress u 7 = ((fnX4_load u 7).1, (fnX4_load u 7).2) from rfl, pEta]
  unfold fnX5_act
  rw [if_neg (show ¬ (11 : Int32) ≤ 7 from by decide), if_neg (show ¬ (7 : Int32) = 2 from by decide), if_neg (show ¬ (7 : Int32) = 10 from by decide)]
  exact loadR7 hI hC hP hT
theorem act8 (hI : iR u) (hC : RC u.2.2.2.2.2.2.2.2.1 D) (hP : RP u.2.2.2.2.2.2.2.2.2.1 G) (hT : RT u.2.2.2.1 P) : Fin2 th (fnX4_performAtAddress u 8) (fnX5_act (mk th u D G P (0, b1, b2) u.2.2.2.2.2.1 X 0) 8) := by
  rw [show fnX4_performAtAddress u 8 = ((fnX4_load u 8).1, (fnX4_load u 8).2) from rfl, pEta]
  unfold fnX5_act
  rw [if_neg (show ¬ (11 : Int32) ≤ 8 from by decide), if_neg (show ¬ (8 : Int32) = 2 from by decide), if_neg (show ¬ (8 : Int32) = 10 from by decide)]
  exact loadR8 hI hC hP hT
theorem act9 (hI : iR u) (hC : RC u.2.2.2.2.2.2.2.2.1 D) (hP : RP u.2.2.2.2.2.2.2.2.2.1 G) (hT : RT u.2.2.2.1 P) : Fin2 th (fnX4_performAtAddress u 9) (fnX5_act (mk th u D G P (0, b1, b2) u.2.2.2.2.2.1 X 0) 9) := by
  rw [show fnX4_performAtAddress u 9 = ((fnX4_load u 9).1, (fnX4_load u 9).2) from rfl, pEta]
  unfold fnX5_act
  rw [if_neg (show ¬ (11 : Int32) ≤ 9 from by decide), if_neg (show ¬ (9 : Int32) = 2 from by decide), if_neg (show ¬ (9 : Int32) = 10 from by decide)]
  exact loadR9 hI hC hP hT
theorem act10 (hI : iR u) (hC : RC u.2.2.2.2.2.2.2.2.1 D) (hP : RP u.2.2.2.2.2.2.2.2.2.1 G) (hT : RT u.2.2.2.1 P) : Fin2 th (fnX4_performAtAddress u 10) (fnX5_act (mk th u D G P (0, b1, b2) u.2.2.2.2.2.1 X 0) 10) := by
  rw [show fnX4_performAtAddress u 10 = ((fnX4_put u u.1.2).1, (fnX4_put u u.1.2).2) from rfl, pEta]
  unfold fnX5_act
  rw [if_neg (show ¬ (11 : Int32) ≤ 10 from by decide), if_neg (show ¬ (10 : Int32) = 2 from by decide), if_pos rfl]
  exact putR hI hC hP hT (i36m hI.1.2) hI.1.2
theorem act11 (hI : iR u) (hC : RC u.2.2.2.2.2.2.2.2.1 D) (hP : RP u.2.2.2.2.2.2.2.2.2.1 G) (hT : RT u.2.2.2.1 P) : Fin2 th (fnX4_performAtAddress u 11) (fnX5_act (mk th u D G P (0, b1, b2) u.2.2.2.2.2.1 X 0) 11) := by
  rw [show fnX4_performAtAddress u 11 = ((fnX4_addOne u).1, (fnX4_addOne u).2) from rfl, pEta]
  exact addR hI hC hP hT
theorem act12 (hI : iR u) (hC : RC u.2.2.2.2.2.2.2.2.1 D) (hP : RP u.2.2.2.2.2.2.2.2.2.1 G) (hT : RT u.2.2.2.1 P) : Fin2 th (fnX4_performAtAddress u 12) (fnX5_act (mk th u D G P (0, b1, b2) u.2.2.2.2.2.1 X 0) 12) := by
  rw [show fnX4_performAtAddress u 12 = ((fnX4_load u 12).1, (fnX4_load u 12).2) from rfl, pEta]
  exact ldxR12 hI hC hP hT
theorem act13 (hI : iR u) (hC : RC u.2.2.2.2.2.2.2.2.1 D) (hP : RP u.2.2.2.2.2.2.2.2.2.1 G) (hT : RT u.2.2.2.1 P) : Fin2 th (fnX4_performAtAddress u 13) (fnX5_act (mk th u D G P (0, b1, b2) u.2.2.2.2.2.1 X 0) 13) := by
  rw [show fnX4_performAtAddress u 13 = ((fnX4_load u 13).1, (fnX4_load u 13).2) from rfl, pEta]
  exact ldxR13 hI hC hP hT
theorem act14 (hI : iR u) (hC : RC u.2.2.2.2.2.2.2.2.1 D) (hP : RP u.2.2.2.2.2.2.2.2.2.1 G) (hT : RT u.2.2.2.1 P) : Fin2 th (fnX4_performAtAddress u 14) (fnX5_act (mk th u D G P (0, b1, b2) u.2.2.2.2.2.1 X 0) 14) := by
  rw [show fnX4_performAtAddress u 14 = ((fnX4_load u 14).1, (fnX4_load u 14).2) from rfl, pEta]
  exact ldxR14 hI hC hP hT
theorem act15 (hI : iR u) (hC : RC u.2.2.2.2.2.2.2.2.1 D) (hP : RP u.2.2.2.2.2.2.2.2.2.1 G) (hT : RT u.2.2.2.1 P) : Fin2 th (fnX4_performAtAddress u 15) (fnX5_act (mk th u D G P (0, b1, b2) u.2.2.2.2.2.1 X 0) 15) := by
  rw [show fnX4_performAtAddress u 15 = ((fnX4_load u 15).1, (fnX4_load u 15).2) from rfl, pEta]
  exact ldxR15 hI hC hP hT
theorem act16 (hI : iR u) (hC : RC u.2.2.2.2.2.2.2.2.1 D) (hP : RP u.2.2.2.2.2.2.2.2.2.1 G) (hT : RT u.2.2.2.1 P) : Fin2 th (fnX4_performAtAddress u 16) (fnX5_act (mk th u D G P (0, b1, b2) u.2.2.2.2.2.1 X 0) 16) := by
  rw [show fnX4_performAtAddress u 16 = ((fnX4_put u (u.2.2.1 0).toInt64).1, (fnX4_put u (u.2.2.1 0).toInt64).2) from rfl, pEta]
  unfold fnX5_act
  rw [if_pos (show (11 : Int32) ≤ 16 from by decide), if_neg (show ¬ (16 : Int32) = 2 from by decide), if_neg (show ¬ (16 : Int32) = 10 from by decide), if_neg (show ¬ (16 : Int32) = 11 from by decide), if_pos (show (16 : Int32) ≤ 16 from by decide), if_neg (show ¬ (20 : Int32) ≤ 16 from by decide)]
  dsimp only
  exact putR (q := (u.2.2.1 0).toInt64) (q' := (u.2.2.1 0).toInt64) hI hC hP hT (i36m (i2lW (hI.2.2.1 0))) (i2lW (hI.2.2.1 0))
theorem act17 (hI : iR u) (hC : RC u.2.2.2.2.2.2.2.2.1 D) (hP : RP u.2.2.2.2.2.2.2.2.2.1 G) (hT : RT u.2.2.2.1 P) : Fin2 th (fnX4_performAtAddress u 17) (fnX5_act (mk th u D G P (0, b1, b2) u.2.2.2.2.2.1 X 0) 17) := by
  rw [show fnX4_performAtAddress u 17 = ((fnX4_put u (u.2.2.1 1).toInt64).1, (fnX4_put u (u.2.2.1 1).toInt64).2) from rfl, pEta]
  unfold fnX5_act
  rw [if_pos (show (11 : Int32) ≤ 17 from by decide), if_neg (show ¬ (17 : Int32) = 2 from by decide), if_neg (show ¬ (17 : Int32) = 10 from by decide), if_neg (show ¬ (17 : Int32) = 11 from by decide), if_pos (show (16 : Int32) ≤ 17 from by decide), if_neg (show ¬ (20 : Int32) ≤ 17 from by decide)]
  dsimp only
  exact putR (q := (u.2.2.1 1).toInt64) (q' := (u.2.2.1 1).toInt64) hI hC hP hT (i36m (i2lW (hI.2.2.1 1))) (i2lW (hI.2.2.1 1))
theorem act18 (hI : iR u) (hC : RC u.2.2.2.2.2.2.2.2.1 D) (hP : RP u.2.2.2.2.2.2.2.2.2.1 G) (hT : RT u.2.2.2.1 P) : Fin2 th (fnX4_performAtAddress u 18) (fnX5_act (mk th u D G P (0, b1, b2) u.2.2.2.2.2.1 X 0) 18) := by
  rw [show fnX4_performAtAddress u 18 = ((fnX4_put u (u.2.2.1 2).toInt64).1, (fnX4_put u (u.2.2.1 2).toInt64).2) from rfl, pEta]
  unfold fnX5_act
  rw [if_pos (show (11 : Int32) ≤ 18 from by decide), if_neg (show ¬ (18 : Int32) = 2 from by decide), if_neg (show ¬ (18 : Int32) = 10 from by decide), if_neg (show ¬ (18 : Int32) = 11 from by decide), if_pos (show (16 : Int32) ≤ 18 from by decide), if_neg (show ¬ (20 : Int32) ≤ 18 from by decide)]
  dsimp only
  exact putR (q := (u.2.2.1 2).toInt64) (q' := (u.2.2.1 2).toInt64) hI hC hP hT (i36m (i2lW (hI.2.2.1 2))) (i2lW (hI.2.2.1 2))
theorem act19 (hI : iR u) (hC : RC u.2.2.2.2.2.2.2.2.1 D) (hP : RP u.2.2.2.2.2.2.2.2.2.1 G) (hT : RT u.2.2.2.1 P) : Fin2 th (fnX4_performAtAddress u 19) (fnX5_act (mk th u D G P (0, b1, b2) u.2.2.2.2.2.1 X 0) 19) := by
  rw [show fnX4_performAtAddress u 19 = ((fnX4_put u (u.2.2.1 3).toInt64).1, (fnX4_put u (u.2.2.1 3).toInt64).2) from rfl, pEta]
  unfold fnX5_act
  rw [if_pos (show (11 : Int32) ≤ 19 from by decide), if_neg (show ¬ (19 : Int32) = 2 from by decide), if_neg (show ¬ (19 : Int32) = 10 from by decide), if_neg (show ¬ (19 : Int32) = 11 from by decide), if_pos (show (16 : Int32) ≤ 19 from by decide), if_neg (show ¬ (20 : Int32) ≤ 19 from by decide)]
  dsimp only
  exact putR (q := (u.2.2.1 3).toInt64) (q' := (u.2.2.1 3).toInt64) hI hC hP hT (i36m (i2lW (hI.2.2.1 3))) (i2lW (hI.2.2.1 3))
theorem act20 (hI : iR u) (hC : RC u.2.2.2.2.2.2.2.2.1 D) (hP : RP u.2.2.2.2.2.2.2.2.2.1 G) (hT : RT u.2.2.2.1 P) : Fin2 th (fnX4_performAtAddress u 20) (fnX5_act (mk th u D G P (0, b1, b2) u.2.2.2.2.2.1 X 0) 20) := by
  rw [show fnX4_performAtAddress u 20 = ((fnX4_transfer u 1).1, (fnX4_transfer u 1).2) from rfl, pEta]
  unfold fnX5_act
  rw [if_pos (show (11 : Int32) ≤ 20 from by decide), if_neg (show ¬ (20 : Int32) = 2 from by decide), if_neg (show ¬ (20 : Int32) = 10 from by decide), if_neg (show ¬ (20 : Int32) = 11 from by decide), if_pos (show (16 : Int32) ≤ 20 from by decide), if_pos (show (20 : Int32) ≤ 20 from by decide), if_neg (show ¬ (24 : Int32) ≤ 20 from by decide), if_pos rfl]
  exact jumpR hC hP hT
theorem act21 (hI : iR u) (hC : RC u.2.2.2.2.2.2.2.2.1 D) (hP : RP u.2.2.2.2.2.2.2.2.2.1 G) (hT : RT u.2.2.2.1 P) : Fin2 th (fnX4_performAtAddress u 21) (fnX5_act (mk th u D G P (0, b1, b2) u.2.2.2.2.2.1 X 0) 21) := by
  rw [show fnX4_performAtAddress u 21 = if u.1.1 = 0 then ((fnX4_transfer u 1).1, (fnX4_transfer u 1).2) else ((fnX4_transfer u 0).1, (fnX4_transfer u 0).2) from rfl, pEta, pEta]
  unfold fnX5_act
  rw [if_pos (show (11 : Int32) ≤ 21 from by decide), if_neg (show ¬ (21 : Int32) = 2 from by decide), if_neg (show ¬ (21 : Int32) = 10 from by decide), if_neg (show ¬ (21 : Int32) = 11 from by decide), if_pos (show (16 : Int32) ≤ 21 from by decide), if_pos (show (20 : Int32) ≤ 21 from by decide), if_neg (show ¬ (24 : Int32) ≤ 21 from by decide), if_neg (show ¬ (21 : Int32) = 20 from by decide), if_pos rfl]
  dsimp only
  by_cases ha : u.1.1 = 0
  · rw [if_pos ha, if_pos (show (mk th u D G P (0, b1, b2) u.2.2.2.2.2.1 X 0).2.2.2.2.1.1 = 0 from ha)]
    exact jumpR hC hP hT
  · rw [if_neg ha, if_neg (show ¬ (mk th u D G P (0, b1, b2) u.2.2.2.2.2.1 X 0).2.2.2.2.1.1 = 0 from ha), if_neg (show ¬ (21 : Int32) = 22 from by decide), if_neg (show ¬ (21 : Int32) = 23 from by decide)]
    exact traN hC hP hT
theorem act22 (hI : iR u) (hC : RC u.2.2.2.2.2.2.2.2.1 D) (hP : RP u.2.2.2.2.2.2.2.2.2.1 G) (hT : RT u.2.2.2.1 P) : Fin2 th (fnX4_performAtAddress u 22) (fnX5_act (mk th u D G P (0, b1, b2) u.2.2.2.2.2.1 X 0) 22) := by
  rw [show fnX4_performAtAddress u 22 = if u.1.1 = 0 then ((fnX4_transfer u 0).1, (fnX4_transfer u 0).2) else ((fnX4_transfer u 1).1, (fnX4_transfer u 1).2) from rfl, pEta, pEta]
  unfold fnX5_act
  rw [if_pos (show (11 : Int32) ≤ 22 from by decide), if_neg (show ¬ (22 : Int32) = 2 from by decide), if_neg (show ¬ (22 : Int32) = 10 from by decide), if_neg (show ¬ (22 : Int32) = 11 from by decide), if_pos (show (16 : Int32) ≤ 22 from by decide), if_pos (show (20 : Int32) ≤ 22 from by decide), if_neg (show ¬ (24 : Int32) ≤ 22 from by decide), if_neg (show ¬ (22 : Int32) = 20 from by decide), if_neg (show ¬ (22 : Int32) = 21 from by decide), if_pos rfl]
  dsimp only
  by_cases ha : u.1.1 = 0
  · rw [if_pos ha, if_pos (show (mk th u D G P (0, b1, b2) u.2.2.2.2.2.1 X 0).2.2.2.2.1.1 = 0 from ha), if_neg (show ¬ (22 : Int32) = 23 from by decide)]
    exact traN hC hP hT
  · rw [if_neg ha, if_neg (show ¬ (mk th u D G P (0, b1, b2) u.2.2.2.2.2.1 X 0).2.2.2.2.1.1 = 0 from ha)]
    exact jumpR hC hP hT
theorem act23 (hI : iR u) (hC : RC u.2.2.2.2.2.2.2.2.1 D) (hP : RP u.2.2.2.2.2.2.2.2.2.1 G) (hT : RT u.2.2.2.1 P) : Fin2 th (fnX4_performAtAddress u 23) (fnX5_act (mk th u D G P (0, b1, b2) u.2.2.2.2.2.1 X 0) 23) := by
  rw [show fnX4_performAtAddress u 23 = if u.1.1 &&& 34359738368 = 0 then ((fnX4_transfer u 0).1, (fnX4_transfer u 0).2) else ((fnX4_transfer u 1).1, (fnX4_transfer u 1).2) from rfl, pEta, pEta]
  unfold fnX5_act
  rw [if_pos (show (11 : Int32) ≤ 23 from by decide), if_neg (show ¬ (23 : Int32) = 2 from by decide), if_neg (show ¬ (23 : Int32) = 10 from by decide), if_neg (show ¬ (23 : Int32) = 11 from by decide), if_pos (show (16 : Int32) ≤ 23 from by decide), if_pos (show (20 : Int32) ≤ 23 from by decide), if_neg (show ¬ (24 : Int32) ≤ 23 from by decide), if_neg (show ¬ (23 : Int32) = 20 from by decide), if_neg (show ¬ (23 : Int32) = 21 from by decide), if_neg (show ¬ (23 : Int32) = 22 from by decide), if_pos rfl]
  dsimp only
  by_cases ha : u.1.1 &&& 34359738368 = 0
  · rw [if_pos ha, if_pos (show (mk th u D G P (0, b1, b2) u.2.2.2.2.2.1 X 0).2.2.2.2.1.1 &&& 34359738368 = 0 from ha)]
    exact traN hC hP hT
  · rw [if_neg ha, if_neg (show ¬ (mk th u D G P (0, b1, b2) u.2.2.2.2.2.1 X 0).2.2.2.2.1.1 &&& 34359738368 = 0 from ha)]
    exact jumpR hC hP hT
theorem act24 (hI : iR u) (hC : RC u.2.2.2.2.2.2.2.2.1 D) (hP : RP u.2.2.2.2.2.2.2.2.2.1 G) (hT : RT u.2.2.2.1 P) : Fin2 th (fnX4_performAtAddress u 24) (fnX5_act (mk th u D G P (0, b1, b2) u.2.2.2.2.2.1 X 0) 24) := by
  rw [show fnX4_performAtAddress u 24 = ((fnX4_advance (u.1, u.2.1, u.2.2.1, ((fnX2_become u.2.2.2.1.1 u.2.2.2.2.2.1), u.2.2.2.1.2.1, u.2.2.2.1.2.2.1, u.2.2.2.1.2.2.2), u.2.2.2.2.1, u.2.2.2.2.2.1, u.2.2.2.2.2.2.1, u.2.2.2.2.2.2.2)).1, (fnX4_advance (u.1, u.2.1, u.2.2.1, ((fnX2_become u.2.2.2.1.1 u.2.2.2.2.2.1), u.2.2.2.1.2.1, u.2.2.2.1.2.2.1, u.2.2.2.1.2.2.2), u.2.2.2.2.1, u.2.2.2.2.2.1, u.2.2.2.2.2.2.1, u.2.2.2.2.2.2.2)).2) from rfl, pEta]
  unfold fnX5_act
  rw [if_pos (show (11 : Int32) ≤ 24 from by decide), if_neg (show ¬ (24 : Int32) = 2 from by decide), if_neg (show ¬ (24 : Int32) = 10 from by decide), if_neg (show ¬ (24 : Int32) = 11 from by decide), if_pos (show (16 : Int32) ≤ 24 from by decide), if_pos (show (20 : Int32) ≤ 24 from by decide), if_pos (show (24 : Int32) ≤ 24 from by decide), if_neg (show ¬ (28 : Int32) ≤ 24 from by decide)]
  exact finA (u := (u.1, u.2.1, u.2.2.1, (u.2.2.2.2.2.1, u.2.2.2.1.2.1, u.2.2.2.1.2.2.1, u.2.2.2.1.2.2.2), u.2.2.2.2.1, u.2.2.2.2.2.1, u.2.2.2.2.2.2.1, u.2.2.2.2.2.2.2)) hC hP (rt0 (t := u.2.2.2.2.2.1) hT)
theorem act25 (hI : iR u) (hC : RC u.2.2.2.2.2.2.2.2.1 D) (hP : RP u.2.2.2.2.2.2.2.2.2.1 G) (hT : RT u.2.2.2.1 P) : Fin2 th (fnX4_performAtAddress u 25) (fnX5_act (mk th u D G P (0, b1, b2) u.2.2.2.2.2.1 X 0) 25) := by
  rw [show fnX4_performAtAddress u 25 = ((fnX4_advance (u.1, u.2.1, u.2.2.1, (u.2.2.2.1.1, (fnX2_become u.2.2.2.1.2.1 u.2.2.2.2.2.1), u.2.2.2.1.2.2.1, u.2.2.2.1.2.2.2), u.2.2.2.2.1, u.2.2.2.2.2.1, u.2.2.2.2.2.2.1, u.2.2.2.2.2.2.2)).1, (fnX4_advance (u.1, u.2.1, u.2.2.1, (u.2.2.2.1.1, (fnX2_become u.2.2.2.1.2.1 u.2.2.2.2.2.1), u.2.2.2.1.2.2.1, u.2.2.2.1.2.2.2), u.2.2.2.2.1, u.2.2.2.2.2.1, u.2.2.2.2.2.2.1, u.2.2.2.2.2.2.2)).2) from rfl, pEta]
  unfold fnX5_act
  rw [if_pos (show (11 : Int32) ≤ 25 from by decide), if_neg (show ¬ (25 : Int32) = 2 from by decide), if_neg (show ¬ (25 : Int32) = 10 from by decide), if_neg (show ¬ (25 : Int32) = 11 from by decide), if_pos (show (16 : Int32) ≤ 25 from by decide), if_pos (show (20 : Int32) ≤ 25 from by decide), if_pos (show (24 : Int32) ≤ 25 from by decide), if_neg (show ¬ (28 : Int32) ≤ 25 from by decide)]
  exact finA (u := (u.1, u.2.1, u.2.2.1, (u.2.2.2.1.1, u.2.2.2.2.2.1, u.2.2.2.1.2.2.1, u.2.2.2.1.2.2.2), u.2.2.2.2.1, u.2.2.2.2.2.1, u.2.2.2.2.2.2.1, u.2.2.2.2.2.2.2)) hC hP (rt1 (t := u.2.2.2.2.2.1) hT)
theorem act26 (hI : iR u) (hC : RC u.2.2.2.2.2.2.2.2.1 D) (hP : RP u.2.2.2.2.2.2.2.2.2.1 G) (hT : RT u.2.2.2.1 P) : Fin2 th (fnX4_performAtAddress u 26) (fnX5_act (mk th u D G P (0, b1, b2) u.2.2.2.2.2.1 X 0) 26) := by
  rw [show fnX4_performAtAddress u 26 = ((fnX4_advance (u.1, u.2.1, u.2.2.1, (u.2.2.2.1.1, u.2.2.2.1.2.1, (fnX2_become u.2.2.2.1.2.2.1 u.2.2.2.2.2.1), u.2.2.2.1.2.2.2), u.2.2.2.2.1, u.2.2.2.2.2.1, u.2.2.2.2.2.2.1, u.2.2.2.2.2.2.2)).1, (fnX4_advance (u.1, u.2.1, u.2.2.1, (u.2.2.2.1.1, u.2.2.2.1.2.1, (fnX2_become u.2.2.2.1.2.2.1 u.2.2.2.2.2.1), u.2.2.2.1.2.2.2), u.2.2.2.2.1, u.2.2.2.2.2.1, u.2.2.2.2.2.2.1, u.2.2.2.2.2.2.2)).2) from rfl, pEta]
  unfold fnX5_act
  rw [if_pos (show (11 : Int32) ≤ 26 from by decide), if_neg (show ¬ (26 : Int32) = 2 from by decide), if_neg (show ¬ (26 : Int32) = 10 from by decide), if_neg (show ¬ (26 : Int32) = 11 from by decide), if_pos (show (16 : Int32) ≤ 26 from by decide), if_pos (show (20 : Int32) ≤ 26 from by decide), if_pos (show (24 : Int32) ≤ 26 from by decide), if_neg (show ¬ (28 : Int32) ≤ 26 from by decide)]
  exact finA (u := (u.1, u.2.1, u.2.2.1, (u.2.2.2.1.1, u.2.2.2.1.2.1, u.2.2.2.2.2.1, u.2.2.2.1.2.2.2), u.2.2.2.2.1, u.2.2.2.2.2.1, u.2.2.2.2.2.2.1, u.2.2.2.2.2.2.2)) hC hP (rt2 (t := u.2.2.2.2.2.1) hT)
theorem act27 (hI : iR u) (hC : RC u.2.2.2.2.2.2.2.2.1 D) (hP : RP u.2.2.2.2.2.2.2.2.2.1 G) (hT : RT u.2.2.2.1 P) : Fin2 th (fnX4_performAtAddress u 27) (fnX5_act (mk th u D G P (0, b1, b2) u.2.2.2.2.2.1 X 0) 27) := by
  rw [show fnX4_performAtAddress u 27 = ((fnX4_advance (u.1, u.2.1, u.2.2.1, (u.2.2.2.1.1, u.2.2.2.1.2.1, u.2.2.2.1.2.2.1, (fnX2_become u.2.2.2.1.2.2.2 u.2.2.2.2.2.1)), u.2.2.2.2.1, u.2.2.2.2.2.1, u.2.2.2.2.2.2.1, u.2.2.2.2.2.2.2)).1, (fnX4_advance (u.1, u.2.1, u.2.2.1, (u.2.2.2.1.1, u.2.2.2.1.2.1, u.2.2.2.1.2.2.1, (fnX2_become u.2.2.2.1.2.2.2 u.2.2.2.2.2.1)), u.2.2.2.2.1, u.2.2.2.2.2.1, u.2.2.2.2.2.2.1, u.2.2.2.2.2.2.2)).2) from rfl, pEta]
  unfold fnX5_act
  rw [if_pos (show (11 : Int32) ≤ 27 from by decide), if_neg (show ¬ (27 : Int32) = 2 from by decide), if_neg (show ¬ (27 : Int32) = 10 from by decide), if_neg (show ¬ (27 : Int32) = 11 from by decide), if_pos (show (16 : Int32) ≤ 27 from by decide), if_pos (show (20 : Int32) ≤ 27 from by decide), if_pos (show (24 : Int32) ≤ 27 from by decide), if_neg (show ¬ (28 : Int32) ≤ 27 from by decide)]
  exact finA (u := (u.1, u.2.1, u.2.2.1, (u.2.2.2.1.1, u.2.2.2.1.2.1, u.2.2.2.1.2.2.1, u.2.2.2.2.2.1), u.2.2.2.2.1, u.2.2.2.2.2.1, u.2.2.2.2.2.2.1, u.2.2.2.2.2.2.2)) hC hP (rt3 (t := u.2.2.2.2.2.1) hT)
theorem act28 (hI : iR u) (hC : RC u.2.2.2.2.2.2.2.2.1 D) (hP : RP u.2.2.2.2.2.2.2.2.2.1 G) (hT : RT u.2.2.2.1 P) : Fin2 th (fnX4_performAtAddress u 28) (fnX5_act (mk th u D G P (0, b1, b2) u.2.2.2.2.2.1 X 0) 28) := by
  rw [show fnX4_performAtAddress u 28 = ((fnX4_put u (fnX2_asWord u.2.2.2.1.1)).1, (fnX4_put u (fnX2_asWord u.2.2.2.1.1)).2) from rfl, pEta]
  unfold fnX5_act
  rw [if_pos (show (11 : Int32) ≤ 28 from by decide), if_neg (show ¬ (28 : Int32) = 2 from by decide), if_neg (show ¬ (28 : Int32) = 10 from by decide), if_neg (show ¬ (28 : Int32) = 11 from by decide), if_pos (show (16 : Int32) ≤ 28 from by decide), if_pos (show (20 : Int32) ≤ 28 from by decide), if_pos (show (24 : Int32) ≤ 28 from by decide), if_pos (show (28 : Int32) ≤ 28 from by decide), if_neg (show ¬ (32 : Int32) ≤ 28 from by decide)]
  dsimp only
  have hw : fnX5_pointer (P.1 0) (P.2.1 0) (P.2.2 0) = fnX2_asWord u.2.2.2.1.1 := by rw [hT.1]; rfl
  rw [show fnX5_pointer ((mk th u D G P (0, b1, b2) u.2.2.2.2.2.1 X 0).2.2.2.2.2.2.1.1 ((28 : Int32) &&& 3).toNatClampNeg) ((mk th u D G P (0, b1, b2) u.2.2.2.2.2.1 X 0).2.2.2.2.2.2.1.2.1 ((28 : Int32) &&& 3).toNatClampNeg) ((mk th u D G P (0, b1, b2) u.2.2.2.2.2.1 X 0).2.2.2.2.2.2.1.2.2 ((28 : Int32) &&& 3).toNatClampNeg) = _ from hw]
  exact putR hI hC hP hT (i36m (ivX2_asWord _ hI.2.2.2.1.1)) (ivX2_asWord _ hI.2.2.2.1.1)
theorem act29 (hI : iR u) (hC : RC u.2.2.2.2.2.2.2.2.1 D) (hP : RP u.2.2.2.2.2.2.2.2.2.1 G) (hT : RT u.2.2.2.1 P) : Fin2 th (fnX4_performAtAddress u 29) (fnX5_act (mk th u D G P (0, b1, b2) u.2.2.2.2.2.1 X 0) 29) := by
  rw [show fnX4_performAtAddress u 29 = ((fnX4_put u (fnX2_asWord u.2.2.2.1.2.1)).1, (fnX4_put u (fnX2_asWord u.2.2.2.1.2.1)).2) from rfl, pEta]
  unfold fnX5_act
  rw [if_pos (show (11 : Int32) ≤ 29 from by decide), if_neg (show ¬ (29 : Int32) = 2 from by decide), if_neg (show ¬ (29 : Int32) = 10 from by decide), if_neg (show ¬ (29 : Int32) = 11 from by decide), if_pos (show (16 : Int32) ≤ 29 from by decide), if_pos (show (20 : Int32) ≤ 29 from by decide), if_pos (show (24 : Int32) ≤ 29 from by decide), if_pos (show (28 : Int32) ≤ 29 from by decide), if_neg (show ¬ (32 : Int32) ≤ 29 from by decide)]
  dsimp only
  have hw : fnX5_pointer (P.1 1) (P.2.1 1) (P.2.2 1) = fnX2_asWord u.2.2.2.1.2.1 := by rw [hT.2.1]; rfl
  rw [show fnX5_pointer ((mk th u D G P (0, b1, b2) u.2.2.2.2.2.1 X 0).2.2.2.2.2.2.1.1 ((29 : Int32) &&& 3).toNatClampNeg) ((mk th u D G P (0, b1, b2) u.2.2.2.2.2.1 X 0).2.2.2.2.2.2.1.2.1 ((29 : Int32) &&& 3).toNatClampNeg) ((mk th u D G P (0, b1, b2) u.2.2.2.2.2.1 X 0).2.2.2.2.2.2.1.2.2 ((29 : Int32) &&& 3).toNatClampNeg) = _ from hw]
  exact putR hI hC hP hT (i36m (ivX2_asWord _ hI.2.2.2.1.2.1)) (ivX2_asWord _ hI.2.2.2.1.2.1)
theorem act30 (hI : iR u) (hC : RC u.2.2.2.2.2.2.2.2.1 D) (hP : RP u.2.2.2.2.2.2.2.2.2.1 G) (hT : RT u.2.2.2.1 P) : Fin2 th (fnX4_performAtAddress u 30) (fnX5_act (mk th u D G P (0, b1, b2) u.2.2.2.2.2.1 X 0) 30) := by
  rw [show fnX4_performAtAddress u 30 = ((fnX4_put u (fnX2_asWord u.2.2.2.1.2.2.1)).1, (fnX4_put u (fnX2_asWord u.2.2.2.1.2.2.1)).2) from rfl, pEta]
  unfold fnX5_act
  rw [if_pos (show (11 : Int32) ≤ 30 from by decide), if_neg (show ¬ (30 : Int32) = 2 from by decide), if_neg (show ¬ (30 : Int32) = 10 from by decide), if_neg (show ¬ (30 : Int32) = 11 from by decide), if_pos (show (16 : Int32) ≤ 30 from by decide), if_pos (show (20 : Int32) ≤ 30 from by decide), if_pos (show (24 : Int32) ≤ 30 from by decide), if_pos (show (28 : Int32) ≤ 30 from by decide), if_neg (show ¬ (32 : Int32) ≤ 30 from by decide)]
  dsimp only
  have hw : fnX5_pointer (P.1 2) (P.2.1 2) (P.2.2 2) = fnX2_asWord u.2.2.2.1.2.2.1 := by rw [hT.2.2.1]; rfl
  rw [show fnX5_pointer ((mk th u D G P (0, b1, b2) u.2.2.2.2.2.1 X 0).2.2.2.2.2.2.1.1 ((30 : Int32) &&& 3).toNatClampNeg) ((mk th u D G P (0, b1, b2) u.2.2.2.2.2.1 X 0).2.2.2.2.2.2.1.2.1 ((30 : Int32) &&& 3).toNatClampNeg) ((mk th u D G P (0, b1, b2) u.2.2.2.2.2.1 X 0).2.2.2.2.2.2.1.2.2 ((30 : Int32) &&& 3).toNatClampNeg) = _ from hw]
  exact putR hI hC hP hT (i36m (ivX2_asWord _ hI.2.2.2.1.2.2.1)) (ivX2_asWord _ hI.2.2.2.1.2.2.1)
theorem act31 (hI : iR u) (hC : RC u.2.2.2.2.2.2.2.2.1 D) (hP : RP u.2.2.2.2.2.2.2.2.2.1 G) (hT : RT u.2.2.2.1 P) : Fin2 th (fnX4_performAtAddress u 31) (fnX5_act (mk th u D G P (0, b1, b2) u.2.2.2.2.2.1 X 0) 31) := by
  rw [show fnX4_performAtAddress u 31 = ((fnX4_put u (fnX2_asWord u.2.2.2.1.2.2.2)).1, (fnX4_put u (fnX2_asWord u.2.2.2.1.2.2.2)).2) from rfl, pEta]
  unfold fnX5_act
  rw [if_pos (show (11 : Int32) ≤ 31 from by decide), if_neg (show ¬ (31 : Int32) = 2 from by decide), if_neg (show ¬ (31 : Int32) = 10 from by decide), if_neg (show ¬ (31 : Int32) = 11 from by decide), if_pos (show (16 : Int32) ≤ 31 from by decide), if_pos (show (20 : Int32) ≤ 31 from by decide), if_pos (show (24 : Int32) ≤ 31 from by decide), if_pos (show (28 : Int32) ≤ 31 from by decide), if_neg (show ¬ (32 : Int32) ≤ 31 from by decide)]
  dsimp only
  have hw : fnX5_pointer (P.1 3) (P.2.1 3) (P.2.2 3) = fnX2_asWord u.2.2.2.1.2.2.2 := by rw [hT.2.2.2]; rfl
  rw [show fnX5_pointer ((mk th u D G P (0, b1, b2) u.2.2.2.2.2.1 X 0).2.2.2.2.2.2.1.1 ((31 : Int32) &&& 3).toNatClampNeg) ((mk th u D G P (0, b1, b2) u.2.2.2.2.2.1 X 0).2.2.2.2.2.2.1.2.1 ((31 : Int32) &&& 3).toNatClampNeg) ((mk th u D G P (0, b1, b2) u.2.2.2.2.2.1 X 0).2.2.2.2.2.2.1.2.2 ((31 : Int32) &&& 3).toNatClampNeg) = _ from hw]
  exact putR hI hC hP hT (i36m (ivX2_asWord _ hI.2.2.2.1.2.2.2)) (ivX2_asWord _ hI.2.2.2.1.2.2.2)
theorem act32 (hI : iR u) (hC : RC u.2.2.2.2.2.2.2.2.1 D) (hP : RP u.2.2.2.2.2.2.2.2.2.1 G) (hT : RT u.2.2.2.1 P) : Fin2 th (fnX4_performAtAddress u 32) (fnX5_act (mk th u D G P (0, b1, b2) u.2.2.2.2.2.1 X 0) 32) := by
  rw [show fnX4_performAtAddress u 32 = ((fnX4_advance ((u.2.2.2.2.2.1.2.1.toInt64, u.1.2), u.2.1, u.2.2.1, u.2.2.2.1, u.2.2.2.2.1, u.2.2.2.2.2.1, u.2.2.2.2.2.2.1, u.2.2.2.2.2.2.2)).1, (fnX4_advance ((u.2.2.2.2.2.1.2.1.toInt64, u.1.2), u.2.1, u.2.2.1, u.2.2.2.1, u.2.2.2.2.1, u.2.2.2.2.2.1, u.2.2.2.2.2.2.1, u.2.2.2.2.2.2.2)).2) from rfl, pEta]
  unfold fnX5_act
  rw [if_pos (show (11 : Int32) ≤ 32 from by decide), if_neg (show ¬ (32 : Int32) = 2 from by decide), if_neg (show ¬ (32 : Int32) = 10 from by decide), if_neg (show ¬ (32 : Int32) = 11 from by decide), if_pos (show (16 : Int32) ≤ 32 from by decide), if_pos (show (20 : Int32) ≤ 32 from by decide), if_pos (show (24 : Int32) ≤ 32 from by decide), if_pos (show (28 : Int32) ≤ 32 from by decide), if_pos (show (32 : Int32) ≤ 32 from by decide), if_pos rfl]
  exact finA (u := ((u.2.2.2.2.2.1.2.1.toInt64, u.1.2), u.2.1, u.2.2.1, u.2.2.2.1, u.2.2.2.2.1, u.2.2.2.2.2.1, u.2.2.2.2.2.2.1, u.2.2.2.2.2.2.2)) hC hP hT
theorem act34 (hI : iR u) (hC : RC u.2.2.2.2.2.2.2.2.1 D) (hP : RP u.2.2.2.2.2.2.2.2.2.1 G) (hT : RT u.2.2.2.1 P) : Fin2 th (fnX4_performAtAddress u 34) (fnX5_act (mk th u D G P (0, b1, b2) u.2.2.2.2.2.1 X 0) 34) := by
  rw [show fnX4_performAtAddress u 34 = ((fnX4_callAddress u).1, (fnX4_callAddress u).2) from rfl, pEta]
  unfold fnX5_act
  rw [if_pos (show (11 : Int32) ≤ 34 from by decide), if_neg (show ¬ (34 : Int32) = 2 from by decide), if_neg (show ¬ (34 : Int32) = 10 from by decide), if_neg (show ¬ (34 : Int32) = 11 from by decide), if_pos (show (16 : Int32) ≤ 34 from by decide), if_pos (show (20 : Int32) ≤ 34 from by decide), if_pos (show (24 : Int32) ≤ 34 from by decide), if_pos (show (28 : Int32) ≤ 34 from by decide), if_pos (show (32 : Int32) ≤ 34 from by decide), if_neg (show ¬ (34 : Int32) = 32 from by decide), if_pos rfl]
  exact callR hI hC hP hT
theorem act35 (hI : iR u) (hC : RC u.2.2.2.2.2.2.2.2.1 D) (hP : RP u.2.2.2.2.2.2.2.2.2.1 G) (hT : RT u.2.2.2.1 P) : Fin2 th (fnX4_performAtAddress u 35) (fnX5_act (mk th u D G P (0, b1, b2) u.2.2.2.2.2.1 X 0) 35) := by
  rw [show fnX4_performAtAddress u 35 = ((fnX4_returnByWord u).1, (fnX4_returnByWord u).2) from rfl, pEta]
  unfold fnX5_act
  rw [if_pos (show (11 : Int32) ≤ 35 from by decide), if_neg (show ¬ (35 : Int32) = 2 from by decide), if_neg (show ¬ (35 : Int32) = 10 from by decide), if_neg (show ¬ (35 : Int32) = 11 from by decide), if_pos (show (16 : Int32) ≤ 35 from by decide), if_pos (show (20 : Int32) ≤ 35 from by decide), if_pos (show (24 : Int32) ≤ 35 from by decide), if_pos (show (28 : Int32) ≤ 35 from by decide), if_pos (show (32 : Int32) ≤ 35 from by decide), if_neg (show ¬ (35 : Int32) = 32 from by decide), if_neg (show ¬ (35 : Int32) = 34 from by decide)]
  exact backR hI hC hP hT
theorem actR (hI : iR u) (hC : RC u.2.2.2.2.2.2.2.2.1 D) (hP : RP u.2.2.2.2.2.2.2.2.2.1 G) (hT : RT u.2.2.2.1 P) {k : Nat} (hk : 1 ≤ k) (hk2 : k ≤ 35) (hk3 : k ≠ 33) : Fin2 th (fnX4_performAtAddress u (nI k)) (fnX5_act (mk th u D G P (0, b1, b2) u.2.2.2.2.2.1 X 0) (nI k)) := by
  rcases (show k = 1 ∨ k = 2 ∨ k = 3 ∨ k = 4 ∨ k = 5 ∨ k = 6 ∨ k = 7 ∨ k = 8 ∨ k = 9 ∨ k = 10 ∨ k = 11 ∨ k = 12 ∨ k = 13 ∨ k = 14 ∨ k = 15 ∨ k = 16 ∨ k = 17 ∨ k = 18 ∨ k = 19 ∨ k = 20 ∨ k = 21 ∨ k = 22 ∨ k = 23 ∨ k = 24 ∨ k = 25 ∨ k = 26 ∨ k = 27 ∨ k = 28 ∨ k = 29 ∨ k = 30 ∨ k = 31 ∨ k = 32 ∨ k = 34 ∨ k = 35 by omega) with rfl | rfl | rfl | rfl | rfl | rfl | rfl | rfl | rfl | rfl | rfl | rfl | rfl | rfl | rfl | rfl | rfl | rfl | rfl | rfl | rfl | rfl | rfl | rfl | rfl | rfl | rfl | rfl | rfl | rfl | rfl | rfl | rfl | rfl
  · exact act1 hI hC hP hT
  · exact act2 hI hC hP hT
  · exact act3 hI hC hP hT
  · exact act4 hI hC hP hT
  · exact act5 hI hC hP hT
  · exact act6 hI hC hP hT
  · exact act7 hI hC hP hT
  · exact act8 hI hC hP hT
  · exact act9 hI hC hP hT
  · exact act10 hI hC hP hT
  · exact act11 hI hC hP hT
  · exact act12 hI hC hP hT
  · exact act13 hI hC hP hT
  · exact act14 hI hC hP hT
  · exact act15 hI hC hP hT
  · exact act16 hI hC hP hT
  · exact act17 hI hC hP hT
  · exact act18 hI hC hP hT
  · exact act19 hI hC hP hT
  · exact act20 hI hC hP hT
  · exact act21 hI hC hP hT
  · exact act22 hI hC hP hT
  · exact act23 hI hC hP hT
  · exact act24 hI hC hP hT
  · exact act25 hI hC hP hT
  · exact act26 hI hC hP hT
  · exact act27 hI hC hP hT
  · exact act28 hI hC hP hT
  · exact act29 hI hC hP hT
  · exact act30 hI hC hP hT
  · exact act31 hI hC hP hT
  · exact act32 hI hC hP hT
  · exact act34 hI hC hP hT
  · exact act35 hI hC hP hT
end
