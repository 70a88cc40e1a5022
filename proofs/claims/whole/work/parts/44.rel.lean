/-! the reference's state out of the class's -/
def mk (th : Int32) (u : TR) (D : TMD) (G : TMG) (P : TMP) (B : TMB) (E : TMQ) (X : TMX) (J : Int32) : TM :=
  (th, u.2.2.2.2.2.2.2.1, D, G, u.1, u.2.2.1, P, u.2.2.2.2.1, (u.2.1.2.1, u.2.1.2.2.1, u.2.1.2.2.2.2.2.2, u.2.1.1), u.2.2.2.2.2.2.1, (u.2.1.2.2.2.1, u.2.1.2.2.2.2.1, u.2.1.2.2.2.2.2.1), B, E, X, J)
def setS (u : TR) (x : TS) : TR := (u.1, u.2.1, u.2.2.1, u.2.2.2.1, u.2.2.2.2.1, u.2.2.2.2.2.1, u.2.2.2.2.2.2.1, x)
theorem ibec (a b : Int64) : iD (dsc a b) := by
  have h := ivX1_become (dsc 0 0) a b (by decide)
  rw [becE] at h; exact h
abbrev ift (f : Int32) : Prop := f = 1 ∨ f = 2 ∨ f = 3 ∨ f = 4
theorem placeR {th : Int32} {u : TR} {D : TMD} {G : TMG} {P : TMP} {b1 b2 : Int32} {E : TMQ} {X : TMX} {J s w r way : Int32} (hS : iS u.2.2.2.2.2.2.2) (hC : RC u.2.2.2.2.2.2.2.2.1 D) (hP : RP u.2.2.2.2.2.2.2.2.2.1 G) (hs : i4 s) (hw : i12 w) (hy : way = 0 ∨ way = 1 ∨ way = 2) :
    ∃ (x' : TS) (D' : TMD) (G' : TMG) (X' : TMX), x'.2.2.2 = dsc X'.1 X'.2 ∧ iS x' ∧ RC x'.2.1 D' ∧ RP x'.2.2.1 G' ∧ ((∃ a, i12 a ∧ (¬ X'.1 &&& 17179869184 = 0 → (0 : Int) < x'.2.2.1.2.2.2.toInt) ∧ fnX3_locate u.2.2.2.2.2.2.2 s w r way 1 = (a, x') ∧ fnX5_place (mk th u D G P (0, b1, b2) E X J) s w r way = (a, mk th (setS u x') D' G' P (0, b1, b2) E X' J)) ∨
      (∃ f, ift f ∧ fnX3_locate u.2.2.2.2.2.2.2 s w r way 1 = (-1 - f, x') ∧ fnX5_place (mk th u D G P (0, b1, b2) E X J) s w r way = (-1, mk th (setS u x') D' G' P (f, s, w) E X' J))) := by
  have hI := ivX3_locate u.2.2.2.2.2.2.2 s w r way 1 hS hs hw
  have hL := ivX3_lookForDescriptor u.2.2.2.2.2.2.2 s 1 hS hs
  unfold fnX3_locate at hI ⊢
  unfold fnX5_place
  obtain ⟨c', D', X', e1, e2, h1⟩ := lookD (x := u.2.2.2.2.2.2.2) (v := mk th u D G P (0, b1, b2) E X J) (s := s) rfl hC hS.2.1.2
  rw [becE] at e1
  rw [e1] at hI hL ⊢
  rw [if_pos (show (mk th u D G P (0, b1, b2) E X J).2.2.2.2.2.2.2.2.2.2.2.1.1 ≤ 0 from by show (0 : Int32) ≤ 0; decide), e2]
  dsimp only at hI ⊢
  rw [show (sD (mk th u D G P (0, b1, b2) E X J) D' X').2.2.2.2.2.2.2.2.2.2.2.2.2.1.1 = X'.1 from rfl, show (sD (mk th u D G P (0, b1, b2) E X J) D' X').2.2.2.2.2.2.2.2.2.2.2.2.2.1.2 = X'.2 from rfl, refB hy]
  rw [refB hy] at hI
  have hf := ivX1_refusal (dsc X'.1 X'.2) w r way (ibec _ _)
  rw [refB hy] at hf
  by_cases hb : fnX5_barred X'.1 X'.2 w r way = 0
  · rw [if_pos hb] at hI
    rw [if_pos hb, if_pos hb]
    by_cases hp : X'.1 &&& 17179869184 = 0
    · rw [if_pos (show (dsc X'.1 X'.2).2.1 = 0 from z1.mpr hp)] at hI
      rw [if_pos (show (dsc X'.1 X'.2).2.1 = 0 from z1.mpr hp), if_pos hp]
      exact ⟨_, D', G, X', rfl, hL, h1, hP, Or.inl ⟨_, mk12 _, fun z => absurd hp z, rfl, rfl⟩⟩
    · rw [if_neg (show ¬ (dsc X'.1 X'.2).2.1 = 0 from fun z => hp (z1.mp z))] at hI
      rw [if_neg (show ¬ (dsc X'.1 X'.2).2.1 = 0 from fun z => hp (z1.mp z)), if_neg hp]
      obtain ⟨q, q', M', c2, G', e3, e4, h3, h4, h6⟩ := lookP (x := (u.2.2.2.2.2.2.2.1, c', u.2.2.2.2.2.2.2.2.2.1, dsc X'.1 X'.2)) (v := sD (mk th u D G P (0, b1, b2) E X J) D' X') (s := s) (p := w / 64) rfl hP hS.2.2.1.2
      have hg := ivX3_lookForPage (u.2.2.2.2.2.2.2.1, c', u.2.2.2.2.2.2.2.2.2.1, dsc X'.1 X'.2) s (w / 64) 1 hL
      rw [e3] at hI hg ⊢
      rw [show fnX5_lookPage (sD (mk th u D G P (0, b1, b2) E X J) D' X') s (w / 64) ((fnX5_bits X'.1 0 12 + w / 64) &&& 4095) = _ from e4]
      dsimp only at hI hg ⊢
      have ht : q' &&& 34359738368 = 0 ↔ q &&& 34359738368 = 0 := by
        rcases h4 with h4 | h4
        · rw [h4]
        · rw [h4]; exact orU q
      have hb6 : fnX5_bits q' 0 6 = fnX5_bits q 0 6 := by
        rcases h4 with h4 | h4
        · rw [h4]
        · rw [h4]; exact pgU q
      by_cases hq : q &&& 34359738368 = 0
      · rw [if_pos hq] at hI
        rw [if_pos hq, if_pos (ht.mpr hq)]
        exact ⟨_, D', G', X', rfl, hg.2, h1, h3, Or.inr ⟨2, Or.inr (Or.inl rfl), rfl, rfl⟩⟩
      · rw [if_neg hq] at hI
        rw [if_neg hq, if_neg (fun z => hq (ht.mp z)), pgE hg.1, hb6]
        rw [pgE hg.1] at hI
        refine ⟨_, D', G', X', rfl, hg.2, h1, h3, Or.inl ⟨_, ?_, fun _ => h6 hq, rfl, rfl⟩⟩
        have hp6 := pgI hg.1 hw
        rw [pgE hg.1] at hp6
        exact hp6
  · rw [if_neg hb, if_neg hb]
    refine ⟨_, D', G, X', rfl, hL, h1, hP, Or.inr ⟨fnX5_barred X'.1 X'.2 w r way, ?_, rfl, ?_⟩⟩
    · rcases hf with h | h | h | h
      · exact absurd h hb
      · exact Or.inl h
      · exact Or.inr (Or.inr (Or.inl h))
      · exact Or.inr (Or.inr (Or.inr h))
    · unfold fnX5_wrong
      rw [if_pos (show (sD (mk th u D G P (0, b1, b2) E X J) D' X').2.2.2.2.2.2.2.2.2.2.2.1.1 ≤ 0 from by show (0 : Int32) ≤ 0; decide)]
      rfl
theorem ge12 {a : Int32} (h : i12 a) : 0 ≤ a := leI (by rw [show (0 : Int32).toInt = 0 from by decide]; exact h.1)
theorem ftN {f : Int32} (h : ift f) : ¬ 0 ≤ -1 - f ∧ ¬ (0 : Int64) ≤ (-1 - f).toInt64 ∧ fnX4_faultOf (-1 - f).toInt64 = f := by
  rcases h with rfl | rfl | rfl | rfl <;> decide
/-- reading, both sides -/
theorem readR {th : Int32} {u : TR} {D : TMD} {G : TMG} {P : TMP} {b1 b2 : Int32} {E : TMQ} {X : TMX} {J : Int32} {y : TP} (hS : iS u.2.2.2.2.2.2.2) (hC : RC u.2.2.2.2.2.2.2.2.1 D) (hP : RP u.2.2.2.2.2.2.2.2.2.1 G) (hy : iP y) :
    ∃ (x' : TS) (D' : TMD) (G' : TMG) (X' : TMX), x'.2.2.2 = dsc X'.1 X'.2 ∧ iS x' ∧ RC x'.2.1 D' ∧ RP x'.2.2.1 G' ∧ ((∃ q : Int64, i36 q ∧ fnX3_read u.2.2.2.2.2.2.2 y 0 = (q, x') ∧ fnX5_read (mk th u D G P (0, b1, b2) E X J) y.1 y.2.1 y.2.2 = (q, mk th (setS u x') D' G' P (0, b1, b2) E X' J)) ∨
      (∃ f, ift f ∧ fnX3_read u.2.2.2.2.2.2.2 y 0 = ((-1 - f).toInt64, x') ∧ fnX5_read (mk th u D G P (0, b1, b2) E X J) y.1 y.2.1 y.2.2 = (0, mk th (setS u x') D' G' P (f, y.1, y.2.1) E X' J))) := by
  obtain ⟨x', D', G', X', h1, h2, h3, h4, h5⟩ := placeR (th := th) (u := u) (D := D) (G := G) (P := P) (b1 := b1) (b2 := b2) (E := E) (X := X) (J := J) (r := y.2.2) (way := 0) hS hC hP hy.1 hy.2.1 (Or.inl rfl)
  refine ⟨x', D', G', X', h1, h2, h3, h4, ?_⟩
  unfold fnX3_read fnX5_read
  rcases h5 with ⟨a, ha, hz, e1, e2⟩ | ⟨f, hf, e1, e2⟩
  · refine Or.inl ⟨x'.1 a.toNatClampNeg, h2.1 _, ?_, ?_⟩
    · rw [e1]; dsimp only; rw [if_pos (ge12 ha)]
    · rw [e2]; dsimp only; rw [if_pos (ge12 ha)]; rfl
  · refine Or.inr ⟨f, hf, ?_, ?_⟩
    · rw [e1]; dsimp only; rw [if_neg (ftN hf).1]
    · rw [e2]; dsimp only; rw [if_neg (show ¬ (0 : Int32) ≤ -1 from by decide)]
/-- an instruction's word, both sides -/
theorem execR {th : Int32} {u : TR} {D : TMD} {G : TMG} {P : TMP} {b1 b2 : Int32} {E : TMQ} {X : TMX} {J : Int32} {y : TP} (hS : iS u.2.2.2.2.2.2.2) (hC : RC u.2.2.2.2.2.2.2.2.1 D) (hP : RP u.2.2.2.2.2.2.2.2.2.1 G) (hy : iP y) :
    ∃ (x' : TS) (D' : TMD) (G' : TMG) (X' : TMX), x'.2.2.2 = dsc X'.1 X'.2 ∧ iS x' ∧ RC x'.2.1 D' ∧ RP x'.2.2.1 G' ∧ ((∃ a, i12 a ∧ fnX3_read u.2.2.2.2.2.2.2 y 2 = (x'.1 a.toNatClampNeg, x') ∧ fnX5_place (mk th u D G P (0, b1, b2) E X J) y.1 y.2.1 y.2.2 2 = (a, mk th (setS u x') D' G' P (0, b1, b2) E X' J)) ∨
      (∃ f, ift f ∧ fnX3_read u.2.2.2.2.2.2.2 y 2 = ((-1 - f).toInt64, x') ∧ fnX5_place (mk th u D G P (0, b1, b2) E X J) y.1 y.2.1 y.2.2 2 = (-1, mk th (setS u x') D' G' P (f, y.1, y.2.1) E X' J))) := by
  obtain ⟨x', D', G', X', h1, h2, h3, h4, h5⟩ := placeR (th := th) (u := u) (D := D) (G := G) (P := P) (b1 := b1) (b2 := b2) (E := E) (X := X) (J := J) (r := y.2.2) (way := 2) hS hC hP hy.1 hy.2.1 (Or.inr (Or.inr rfl))
  refine ⟨x', D', G', X', h1, h2, h3, h4, ?_⟩
  unfold fnX3_read
  rcases h5 with ⟨a, ha, hz, e1, e2⟩ | ⟨f, hf, e1, e2⟩
  · refine Or.inl ⟨a, ha, ?_, e2⟩
    rw [e1]; dsimp only; rw [if_pos (ge12 ha)]
  · refine Or.inr ⟨f, hf, ?_, e2⟩
    rw [e1]; dsimp only; rw [if_neg (ftN hf).1]
theorem i36m {q : Int64} (h : i36 q) : q &&& 68719476735 = q := by
  obtain ⟨k, hk, rfl⟩ := i36N h
  apply Int64.toBitVec_inj.mp
  apply BitVec.eq_of_toNat_eq
  rw [Int64.toBitVec_and, BitVec.toNat_and, lNbv, BitVec.toNat_ofNat, show (Int64.toBitVec 68719476735).toNat = 2 ^ 36 - 1 from by decide, Nat.mod_eq_of_lt (show k < 2 ^ 64 by omega), Nat.and_two_pow_sub_one_eq_mod, Nat.mod_eq_of_lt hk]
/-- writing, both sides -/
theorem writeR {th : Int32} {u : TR} {D : TMD} {G : TMG} {P : TMP} {b1 b2 : Int32} {y : TP} {X : TMX} {J : Int32} {q q' : Int64} (hS : iS u.2.2.2.2.2.2.2) (hC : RC u.2.2.2.2.2.2.2.2.1 D) (hP : RP u.2.2.2.2.2.2.2.2.2.1 G) (hy : iP y) (hq : q' &&& 68719476735 = q) (h36 : i36 q) :
    ∃ (x' : TS) (D' : TMD) (G' : TMG) (X' : TMX), iS x' ∧ RC x'.2.1 D' ∧ RP x'.2.2.1 G' ∧ ((fnX3_write u.2.2.2.2.2.2.2 y q = (0, x') ∧ fnX5_write (mk th u D G P (0, b1, b2) y X J) q' = mk th (setS u x') D' G' P (0, b1, b2) y X' J) ∨
      (∃ f, ift f ∧ fnX3_write u.2.2.2.2.2.2.2 y q = (f, x') ∧ fnX5_write (mk th u D G P (0, b1, b2) y X J) q' = mk th (setS u x') D' G' P (f, y.1, y.2.1) y X' J)) := by
  obtain ⟨x', D', G', X', h1, h2, h3, h4, h5⟩ := placeR (th := th) (u := u) (D := D) (G := G) (P := P) (b1 := b1) (b2 := b2) (E := y) (X := X) (J := J) (r := y.2.2) (way := 1) hS hC hP hy.1 hy.2.1 (Or.inr (Or.inl rfl))
  have hV := ivX3_write u.2.2.2.2.2.2.2 y q hS hy h36
  unfold fnX3_write at hV ⊢
  unfold fnX5_write
  rcases h5 with ⟨a, ha, hz, e1, e2⟩ | ⟨f, hf, e1, e2⟩
  · rw [e1] at hV ⊢
    rw [show fnX5_place (mk th u D G P (0, b1, b2) y X J) (mk th u D G P (0, b1, b2) y X J).2.2.2.2.2.2.2.2.2.2.2.2.1.1 (mk th u D G P (0, b1, b2) y X J).2.2.2.2.2.2.2.2.2.2.2.2.1.2.1 (mk th u D G P (0, b1, b2) y X J).2.2.2.2.2.2.2.2.2.2.2.2.1.2.2 1 = _ from e2]
    dsimp only at hV ⊢
    rw [if_pos (ge12 ha)] at hV ⊢
    rw [if_pos (ge12 ha), hq]
    rw [h1] at hV ⊢
    rw [show (mk th (setS u x') D' G' P (0, b1, b2) y X' J).2.2.2.2.2.2.2.2.2.2.2.2.2.1.1 = X'.1 from rfl]
    by_cases hp : X'.1 &&& 17179869184 = 0
    · rw [if_pos (show (dsc X'.1 X'.2).2.1 = 0 from z1.mpr hp)] at hV ⊢
      rw [if_pos hp]
      exact ⟨_, D', G', X', hV.2, h3, h4, Or.inl ⟨rfl, rfl⟩⟩
    · rw [if_neg (show ¬ (dsc X'.1 X'.2).2.1 = 0 from fun z => hp (z1.mp z))] at hV ⊢
      rw [if_neg hp]
      have hz := hz hp
      have h0 := h4.2 0 hz
      unfold fnX3_markChanged at hV ⊢
      rw [h0.2.1] at hV ⊢
      rw [show (mk th (setS u x') D' G' P (0, b1, b2) y X' J).2.2.2.1.2.2 0 = G'.2.2 0 from rfl]
      by_cases hc : G'.2.2 0 &&& 8589934592 = 0
      · rw [if_pos hc] at hV ⊢
        rw [if_pos hc]
        rw [h1] at hV ⊢
        refine ⟨_, D', (G'.1, G'.2.1, vp_updL G'.2.2 0 (G'.2.2 0 ||| 8589934592)), X', hV.2, h3, ⟨h4.1, fun i hi => ?_⟩, Or.inl ⟨rfl, rfl⟩⟩
        have hh := h4.2 i hi
        by_cases e : i = 0
        · subst e
          refine ⟨hh.1, ?_, ?_⟩
          · show vp_updL x'.2.2.1.2.1 0 (G'.2.2 0 ||| 8589934592) 0 = vp_updL G'.2.2 0 (G'.2.2 0 ||| 8589934592) 0
            rw [pk_uLs, pk_uLs]
          · show ¬ (vp_updL G'.2.2 0 (G'.2.2 0 ||| 8589934592) 0 &&& 34359738368) = 0
            rw [pk_uLs]; exact fun z => hh.2.2 ((orC _).mp z)
        · refine ⟨hh.1, ?_, ?_⟩
          · show vp_updL x'.2.2.1.2.1 0 (G'.2.2 0 ||| 8589934592) i = vp_updL G'.2.2 0 (G'.2.2 0 ||| 8589934592) i
            rw [pk_uLn e, pk_uLn e]; exact hh.2.1
          · show ¬ (vp_updL G'.2.2 0 (G'.2.2 0 ||| 8589934592) i &&& 34359738368) = 0
            rw [pk_uLn e]; exact hh.2.2
      · rw [if_neg hc] at hV ⊢
        rw [if_neg hc]
        exact ⟨_, D', G', X', hV.2, h3, h4, Or.inl ⟨rfl, rfl⟩⟩
  · rw [e1] at hV ⊢
    rw [show fnX5_place (mk th u D G P (0, b1, b2) y X J) (mk th u D G P (0, b1, b2) y X J).2.2.2.2.2.2.2.2.2.2.2.2.1.1 (mk th u D G P (0, b1, b2) y X J).2.2.2.2.2.2.2.2.2.2.2.2.1.2.1 (mk th u D G P (0, b1, b2) y X J).2.2.2.2.2.2.2.2.2.2.2.2.1.2.2 1 = _ from e2]
    dsimp only at hV ⊢
    rw [if_neg (ftN hf).1, (ftN hf).2.2] at hV ⊢
    rw [if_neg (show ¬ (0 : Int32) ≤ -1 from by decide)]
    exact ⟨x', D', G', X', h2, h3, h4, Or.inr ⟨f, hf, rfl, rfl⟩⟩
