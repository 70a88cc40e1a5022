/-! the chain of indirect words, both sides -/
theorem wrong0 {th : Int32} {u : TR} {D : TMD} {G : TMG} {P : TMP} {b1 b2 : Int32} {E : TMQ} {X : TMX} {J a b c : Int32} : fnX5_wrong (mk th u D G P (0, b1, b2) E X J) a b c = mk th u D G P (a, b, c) E X J := by
  unfold fnX5_wrong
  rw [if_pos (show (mk th u D G P (0, b1, b2) E X J).2.2.2.2.2.2.2.2.2.2.2.1.1 ≤ 0 from by show (0 : Int32) ≤ 0; decide)]
  rfl
theorem wrongH {th : Int32} {u : TR} {D : TMD} {G : TMG} {P : TMP} {b1 b2 : Int32} {E : TMQ} {X : TMX} {J a : Int32} : fnX5_wrongHere (mk th u D G P (0, b1, b2) E X J) a = mk th u D G P (a, u.2.2.2.2.1.1, u.2.2.2.2.1.2.1) E X J := by
  unfold fnX5_wrongHere
  exact wrong0
theorem followR {th : Int32} {u : TR} {D : TMD} {G : TMG} {P : TMP} {b1 b2 : Int32} {X : TMX} {J : Int32} {w : Int64} (hT : RT u.2.2.2.1 P) :
    (∃ t : TP, fnX4_followWord u w = (1, setT u t) ∧ fnX5_indirect (mk th u D G P (0, b1, b2) u.2.2.2.2.2.1 X J) w = mk th u D G P (0, b1, b2) t X J) ∨
    (fnX4_followWord u w = (0, u) ∧ fnX5_indirect (mk th u D G P (0, b1, b2) u.2.2.2.2.2.1 X J) w = mk th u D G P (6, u.2.2.2.2.1.1, u.2.2.2.2.1.2.1) u.2.2.2.2.2.1 X J) := by
  obtain ⟨t1, t2, t3, t4⟩ := hT
  unfold fnX4_followWord fnX5_indirect
  dsimp only
  by_cases h0 : fnX5_bits w 33 3 = 0
  · rw [if_pos (show fnX4_field w 33 3 = 0 from h0), h0, if_neg (show ¬ (0 : Int32) = 1 from by decide), if_neg (show ¬ (0 : Int32) = 2 from by decide), if_pos rfl]
    exact Or.inl ⟨_, rfl, rfl⟩
  · rw [if_neg (show ¬ fnX4_field w 33 3 = 0 from h0)]
    by_cases h1 : fnX5_bits w 33 3 = 1
    · rw [if_pos (show fnX4_field w 33 3 = 1 from h1), if_pos h1, grE]
      exact Or.inl ⟨_, rfl, rfl⟩
    · rw [if_neg (show ¬ fnX4_field w 33 3 = 1 from h1), if_neg h1]
      by_cases h2 : fnX5_bits w 33 3 = 2
      · rw [if_pos (show fnX4_field w 33 3 = 2 from h2), if_pos h2, grE]
        rcases c4 (b2i w 18) with h | h | h | h <;> rw [h, show fnX4_field w 18 2 = _ from h]
        · rw [if_pos rfl, t1]
          exact Or.inl ⟨_, rfl, rfl⟩
        · rw [if_neg (show ¬ (1 : Int32) = 0 from by decide), if_pos rfl, t2]
          exact Or.inl ⟨_, rfl, rfl⟩
        · rw [if_neg (show ¬ (2 : Int32) = 0 from by decide), if_neg (show ¬ (2 : Int32) = 1 from by decide), if_pos rfl, t3]
          exact Or.inl ⟨_, rfl, rfl⟩
        · rw [if_neg (show ¬ (3 : Int32) = 0 from by decide), if_neg (show ¬ (3 : Int32) = 1 from by decide), if_neg (show ¬ (3 : Int32) = 2 from by decide), t4]
          exact Or.inl ⟨_, rfl, rfl⟩
      · rw [if_neg (show ¬ fnX4_field w 33 3 = 2 from h2), if_neg h2, if_neg h0, wrongH]
        exact Or.inr ⟨rfl, rfl⟩
/-- what the reference keeps of a fault -/
def bd (f : Int32) (u : TR) : TMB := if 4 < f then (f, u.2.2.2.2.1.1, u.2.2.2.2.1.2.1) else (f, u.2.2.2.2.2.1.1, u.2.2.2.2.2.1.2.1)
theorem bdF {f : Int32} {u : TR} (h : ift f) : bd f u = (f, u.2.2.2.2.2.1.1, u.2.2.2.2.2.1.2.1) := by
  unfold bd
  rcases h with rfl | rfl | rfl | rfl <;> rfl
theorem addr0 (n : Nat) (k : Int32) (v : TM) : lpX5_address n k 0 v = v := by
  cases n with
  | zero => rfl
  | succ n => rw [lpX5_address_s, if_pos rfl]
theorem addrB (n : Nat) (k m : Int32) (v : TM) (h : ¬ v.2.2.2.2.2.2.2.2.2.2.2.1.1 = 0) : lpX5_address n k m v = v := by
  cases n with
  | zero => rfl
  | succ n =>
    rw [lpX5_address_s]
    by_cases hm : m = 0
    · rw [if_pos hm]
    · rw [if_neg hm, if_neg h]
theorem ftZ {f : Int32} (h : ift f) : ¬ f = 0 ∧ ¬ f ≤ 0 := by rcases h with rfl | rfl | rfl | rfl <;> decide
theorem ge36 {q : Int64} (h : i36 q) : (0 : Int64) ≤ q := Int64.le_iff_toInt_le.mpr (by rw [show (0 : Int64).toInt = 0 from by decide]; exact h.1)
theorem chainR {th J : Int32} {P : TMP} : ∀ (n : Nat) (k : Int32) (u : TR) (D : TMD) (G : TMG) (b1 b2 : Int32) (X : TMX), iR u → RC u.2.2.2.2.2.2.2.2.1 D → RP u.2.2.2.2.2.2.2.2.2.1 G → RT u.2.2.2.1 P → (0 ≤ k.toInt ∧ k.toInt ≤ 5) → (5 - k.toInt).toNat < n →
    ∃ (f : Int32) (u' : TR) (D' : TMD) (G' : TMG) (X' : TMX) (E' : TMQ), RC u'.2.2.2.2.2.2.2.2.1 D' ∧ RP u'.2.2.2.2.2.2.2.2.2.1 G' ∧ RT u'.2.2.2.1 P ∧ lpX4_followChain n k u = (f, u') ∧
      ((f = 0 ∧ lpX5_address n k 1 (mk th u D G P (0, b1, b2) u.2.2.2.2.2.1 X J) = mk th u' D' G' P (0, b1, b2) u'.2.2.2.2.2.1 X' J) ∨
       (¬ f = 0 ∧ ¬ f ≤ 0 ∧ lpX5_address n k 1 (mk th u D G P (0, b1, b2) u.2.2.2.2.2.1 X J) = mk th u' D' G' P (bd f u') E' X' J)) := by
  intro n
  induction n with
  | zero => intro k u D G b1 b2 X _ _ _ _ _ h; omega
  | succ n ih =>
    intro k u D G b1 b2 X hI hC hP hT hk hn
    rw [lpX4_followChain_s, lpX5_address_s, if_neg (show ¬ (1 : Int32) = 0 from by decide), if_pos (show (mk th u D G P (0, b1, b2) u.2.2.2.2.2.1 X J).2.2.2.2.2.2.2.2.2.2.2.1.1 = 0 from rfl)]
    by_cases h5 : 5 ≤ k
    · have e : k = 5 := Int32.toInt_inj.mp (by have := leJ h5; rw [show (5 : Int32).toInt = 5 from by decide] at *; omega)
      rw [if_pos h5, if_pos e]
      exact ⟨6, u, D, G, X, _, hC, hP, hT, rfl, Or.inr ⟨by decide, by decide, wrongH⟩⟩
    · rw [if_neg h5, if_neg (show ¬ k = 5 from fun z => h5 (by rw [z]; decide))]
      obtain ⟨x', D', G', X', h1, h2, h3, h4, h6⟩ := readR (th := th) (u := u) (D := D) (G := G) (P := P) (b1 := b1) (b2 := b2) (E := u.2.2.2.2.2.1) (X := X) (J := J) (y := u.2.2.2.2.2.1) hI.2.2.2.2.2.2.2 hC hP hI.2.2.2.2.2.1
      rcases h6 with ⟨q, hq, e1, e2⟩ | ⟨f, hf, e1, e2⟩
      · rw [e1, show fnX5_read (mk th u D G P (0, b1, b2) u.2.2.2.2.2.1 X J) (mk th u D G P (0, b1, b2) u.2.2.2.2.2.1 X J).2.2.2.2.2.2.2.2.2.2.2.2.1.1 (mk th u D G P (0, b1, b2) u.2.2.2.2.2.1 X J).2.2.2.2.2.2.2.2.2.2.2.2.1.2.1 (mk th u D G P (0, b1, b2) u.2.2.2.2.2.1 X J).2.2.2.2.2.2.2.2.2.2.2.2.1.2.2 = _ from e2]
        dsimp only
        rw [if_pos (ge36 hq), if_pos (show (mk th (setS u x') D' G' P (0, b1, b2) u.2.2.2.2.2.1 X' J).2.2.2.2.2.2.2.2.2.2.2.1.1 ≤ 0 from by show (0 : Int32) ≤ 0; decide), h1, grE]
        have hT' : RT (setT (setS u x') (u.2.2.2.2.2.1.1, u.2.2.2.2.2.1.2.1, if u.2.2.2.2.2.1.2.2 < (dsc X'.1 X'.2).2.2.2.2.1 then (dsc X'.1 X'.2).2.2.2.2.1 else u.2.2.2.2.2.1.2.2)).2.2.2.1 P := hT
        have hF := followR (th := th) (D := D') (G := G') (b1 := b1) (b2 := b2) (X := X') (J := J) (w := q) hT'
        have hFI := ivX4_followWord (setT (setS u x') (u.2.2.2.2.2.1.1, u.2.2.2.2.2.1.2.1, if u.2.2.2.2.2.1.2.2 < (dsc X'.1 X'.2).2.2.2.2.1 then (dsc X'.1 X'.2).2.2.2.2.1 else u.2.2.2.2.2.1.2.2)) q ⟨hI.1, hI.2.1, hI.2.2.1, hI.2.2.2.1, hI.2.2.2.2.1, ⟨hI.2.2.2.2.2.1.1, hI.2.2.2.2.2.1.2.1, mx3 hI.2.2.2.2.2.1.2.2 (ibec X'.1 X'.2).1⟩, hI.2.2.2.2.2.2.1, h2⟩
        rw [show (u.1, u.2.1, u.2.2.1, u.2.2.2.1, u.2.2.2.2.1, (u.2.2.2.2.2.1.1, u.2.2.2.2.2.1.2.1, if u.2.2.2.2.2.1.2.2 < (dsc X'.1 X'.2).2.2.2.2.1 then (dsc X'.1 X'.2).2.2.2.2.1 else u.2.2.2.2.2.1.2.2), u.2.2.2.2.2.2.1, x') = setT (setS u x') (u.2.2.2.2.2.1.1, u.2.2.2.2.2.1.2.1, if u.2.2.2.2.2.1.2.2 < (dsc X'.1 X'.2).2.2.2.2.1 then (dsc X'.1 X'.2).2.2.2.2.1 else u.2.2.2.2.2.1.2.2) from rfl]
        generalize hU : setT (setS u x') (u.2.2.2.2.2.1.1, u.2.2.2.2.2.1.2.1, if u.2.2.2.2.2.1.2.2 < (dsc X'.1 X'.2).2.2.2.2.1 then (dsc X'.1 X'.2).2.2.2.2.1 else u.2.2.2.2.2.1.2.2) = U at hF hFI hT' ⊢
        have hCU : RC U.2.2.2.2.2.2.2.2.1 D' := by rw [← hU]; exact h3
        have hPU : RP U.2.2.2.2.2.2.2.2.2.1 G' := by rw [← hU]; exact h4
        have e3 : ((mk th (setS u x') D' G' P (0, b1, b2) u.2.2.2.2.2.1 X' J).1, (mk th (setS u x') D' G' P (0, b1, b2) u.2.2.2.2.2.1 X' J).2.1, (mk th (setS u x') D' G' P (0, b1, b2) u.2.2.2.2.2.1 X' J).2.2.1, (mk th (setS u x') D' G' P (0, b1, b2) u.2.2.2.2.2.1 X' J).2.2.2.1, (mk th (setS u x') D' G' P (0, b1, b2) u.2.2.2.2.2.1 X' J).2.2.2.2.1, (mk th (setS u x') D' G' P (0, b1, b2) u.2.2.2.2.2.1 X' J).2.2.2.2.2.1, (mk th (setS u x') D' G' P (0, b1, b2) u.2.2.2.2.2.1 X' J).2.2.2.2.2.2.1, (mk th (setS u x') D' G' P (0, b1, b2) u.2.2.2.2.2.1 X' J).2.2.2.2.2.2.2.1, (mk th (setS u x') D' G' P (0, b1, b2) u.2.2.2.2.2.1 X' J).2.2.2.2.2.2.2.2.1, (mk th (setS u x') D' G' P (0, b1, b2) u.2.2.2.2.2.1 X' J).2.2.2.2.2.2.2.2.2.1, (mk th (setS u x') D' G' P (0, b1, b2) u.2.2.2.2.2.1 X' J).2.2.2.2.2.2.2.2.2.2.1, (mk th (setS u x') D' G' P (0, b1, b2) u.2.2.2.2.2.1 X' J).2.2.2.2.2.2.2.2.2.2.2.1, ((mk th (setS u x') D' G' P (0, b1, b2) u.2.2.2.2.2.1 X' J).2.2.2.2.2.2.2.2.2.2.2.2.1.1, (mk th (setS u x') D' G' P (0, b1, b2) u.2.2.2.2.2.1 X' J).2.2.2.2.2.2.2.2.2.2.2.2.1.2.1, if (mk th (setS u x') D' G' P (0, b1, b2) u.2.2.2.2.2.1 X' J).2.2.2.2.2.2.2.2.2.2.2.2.1.2.2 < fnX5_bits (mk th (setS u x') D' G' P (0, b1, b2) u.2.2.2.2.2.1 X' J).2.2.2.2.2.2.2.2.2.2.2.2.2.1.2 0 3 then fnX5_bits (mk th (setS u x') D' G' P (0, b1, b2) u.2.2.2.2.2.1 X' J).2.2.2.2.2.2.2.2.2.2.2.2.2.1.2 0 3 else (mk th (setS u x') D' G' P (0, b1, b2) u.2.2.2.2.2.1 X' J).2.2.2.2.2.2.2.2.2.2.2.2.1.2.2), (mk th (setS u x') D' G' P (0, b1, b2) u.2.2.2.2.2.1 X' J).2.2.2.2.2.2.2.2.2.2.2.2.2.1, (mk th (setS u x') D' G' P (0, b1, b2) u.2.2.2.2.2.1 X' J).2.2.2.2.2.2.2.2.2.2.2.2.2.2) = mk th U D' G' P (0, b1, b2) U.2.2.2.2.2.1 X' J := by rw [← hU]; rfl
        rw [e3]
        rcases hF with ⟨t, f1, f2⟩ | ⟨f1, f2⟩
        · rw [f1] at hFI ⊢
          dsimp only at hFI ⊢
          rw [if_neg (show ¬ (1 : Int32) = 0 from by decide)]
          rw [f2]
          by_cases hg : q &&& 1048576 = 0
          · rw [if_pos hg, if_neg (fun z => (bt1 (M := 1048576) 20 (by decide) (by decide) (by decide)).mp z hg), addr0]
            exact ⟨0, setT U t, D', G', X', t, hCU, hPU, hT', rfl, Or.inl ⟨rfl, rfl⟩⟩
          · rw [if_neg hg, if_pos ((bt1 (M := 1048576) 20 (by decide) (by decide) (by decide)).mpr hg)]
            have hk5 : k < 5 := Int32.not_le.mp h5
            exact ih (k + 1) (setT U t) D' G' b1 b2 X' hFI hCU hPU hT' (lpK5 hk hk5) (by rw [incI hk5]; have := ltJ hk5; rw [show (5 : Int32).toInt = 5 from by decide] at this; omega)
        · rw [f1]
          dsimp only
          rw [if_pos rfl]
          rw [f2]
          refine ⟨6, U, D', G', X', U.2.2.2.2.2.1, hCU, hPU, hT', rfl, Or.inr ⟨by decide, by decide, ?_⟩⟩
          by_cases hg : fnX5_bits q 20 1 = 1
          · rw [if_pos hg, addrB _ _ _ _ (show ¬ (6 : Int32) = 0 from by decide)]; rfl
          · rw [if_neg hg, addr0]; rfl
      · rw [e1, show fnX5_read (mk th u D G P (0, b1, b2) u.2.2.2.2.2.1 X J) (mk th u D G P (0, b1, b2) u.2.2.2.2.2.1 X J).2.2.2.2.2.2.2.2.2.2.2.2.1.1 (mk th u D G P (0, b1, b2) u.2.2.2.2.2.1 X J).2.2.2.2.2.2.2.2.2.2.2.2.1.2.1 (mk th u D G P (0, b1, b2) u.2.2.2.2.2.1 X J).2.2.2.2.2.2.2.2.2.2.2.2.1.2.2 = _ from e2]
        dsimp only
        rw [if_neg (ftN hf).2.1, (ftN hf).2.2, if_neg (show ¬ (mk th (setS u x') D' G' P (f, u.2.2.2.2.2.1.1, u.2.2.2.2.2.1.2.1) u.2.2.2.2.2.1 X' J).2.2.2.2.2.2.2.2.2.2.2.1.1 ≤ 0 from (ftZ hf).2)]
        refine ⟨f, setS u x', D', G', X', u.2.2.2.2.2.1, h3, h4, hT, rfl, Or.inr ⟨(ftZ hf).1, (ftZ hf).2, ?_⟩⟩
        rw [bdF hf]; rfl
