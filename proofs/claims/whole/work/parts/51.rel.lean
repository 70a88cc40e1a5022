/-! an instruction, a turn and a run, both sides -/
section
variable {th : Int32} {u : TR} {D : TMD} {G : TMG} {P : TMP} {b1 b2 : Int32} {B : TMB} {E : TMQ} {X : TMX} {J : Int32}
def bP (u : TR) (w : Int64) : Int32 × TR := if fnX4_field w 30 6 = 0 then fnX4_performWithoutAddress u (fnX4_field w 30 6) else if fnX4_field w 30 6 = 33 then fnX4_performWithoutAddress u (fnX4_field w 30 6) else if fnX4_field w 30 6 ≤ 35 then (if w &&& 67108864 = 0 then fnX4_performAtAddress (fnX4_startAddress u w) (fnX4_field w 30 6) else if (fnX4_followChain (fnX4_startAddress u w)).1 = 0 then fnX4_performAtAddress (fnX4_followChain (fnX4_startAddress u w)).2 (fnX4_field w 30 6) else fnX4_followChain (fnX4_startAddress u w)) else fnX4_performWithoutAddress u (fnX4_field w 30 6)
theorem nIle {a b : Nat} (ha : a < 2 ^ 31) (hb : b < 2 ^ 31) : nI a ≤ nI b ↔ a ≤ b := nI_leI ha hb
theorem tlR {w : Int64} (hI : iR u) (hC : RC u.2.2.2.2.2.2.2.2.1 D) (hP : RP u.2.2.2.2.2.2.2.2.2.1 G) (hT : RT u.2.2.2.1 P) (h36 : i36 w) (ht : u.2.2.2.2.2.1 = u.2.2.2.2.1) :
    Rl th (cl (bP u w)) (tlM (mk th u D G P (0, b1, b2) E X 0) w) := by
  unfold tlM bP
  rw [if_pos (show (mk th u D G P (0, b1, b2) E X 0).2.2.2.2.2.2.2.2.2.2.2.1.1 = 0 from rfl)]
  obtain ⟨k, hk, ek⟩ := i6N (b6i w 30)
  rw [ek, show fnX4_field w 30 6 = _ from ek]
  by_cases h33 : k = 33
  · subst h33
    rw [if_neg (show ¬ nI 33 = 0 from by decide), if_pos (show nI 33 = 33 from by decide), if_pos (show nI 33 = 33 from by decide)]
    rw [show fnX4_performWithoutAddress u (nI 33) = (((fnX4_advance ((u.1.2, u.1.1), u.2.1, u.2.2.1, u.2.2.2.1, u.2.2.2.2.1, u.2.2.2.2.2.1, u.2.2.2.2.2.2.1, u.2.2.2.2.2.2.2)).1, (fnX4_advance ((u.1.2, u.1.1), u.2.1, u.2.2.1, u.2.2.2.1, u.2.2.2.2.1, u.2.2.2.2.2.1, u.2.2.2.2.2.2.1, u.2.2.2.2.2.2.2)).2)) from rfl, pEta]
    exact finA (u := ((u.1.2, u.1.1), u.2.1, u.2.2.1, u.2.2.2.1, u.2.2.2.2.1, u.2.2.2.2.2.1, u.2.2.2.2.2.2.1, u.2.2.2.2.2.2.2)) hC hP hT
  · have n33 : ¬ nI k = 33 := fun z => h33 ((nI_eq (by omega) (by decide)).mp (show nI k = nI 33 from z))
    rw [if_neg n33, if_neg n33]
    by_cases h35 : k ≤ 35
    · have q35 : nI k ≤ 35 := (nIle (b := 35) (by omega) (by decide)).mpr h35
      rw [if_pos q35, if_pos q35, if_pos (show nI k ≤ 38 from (nIle (b := 38) (by omega) (by decide)).mpr (by omega))]
      by_cases h0 : k = 0
      · subst h0
        rw [if_pos (show nI 0 = 0 from by decide), if_pos (show nI 0 ≤ 0 from by decide)]
        rw [show fnX4_performWithoutAddress u (nI 0) = ((fnX4_advance u).1, (fnX4_advance u).2) from rfl, pEta]
        exact finA hC hP hT
      · rw [if_neg (show ¬ nI k = 0 from nI_ne0 (by omega) (by omega)), if_neg (show ¬ nI k ≤ 0 from nI_nle (by omega) (by omega))]
        obtain ⟨t, e1, e2⟩ := startR (th := th) (u := u) (D := D) (G := G) (P := P) (B := (0, b1, b2)) (E := E) (X := X) (J := 0) (w := w) hT
        have hI2 := ivX4_startAddress u w hI
        rw [e1] at hI2
        rw [e1, e2]
        by_cases hi : w &&& 67108864 = 0
        · rw [if_pos hi, if_pos hi, addr0, if_pos (show (mk th u D G P (0, b1, b2) t X 0).2.2.2.2.2.2.2.2.2.2.2.1.1 = 0 from rfl)]
          exact actR (u := setT u t) hI2 hC hP hT (by omega) h35 h33
        · rw [if_neg hi, if_neg hi]
          obtain ⟨f, u', D', G', X', E', c1, c2, c3, c4, c5⟩ := chainR (th := th) (J := 0) (P := P) 6 0 (setT u t) D G b1 b2 X hI2 hC hP hT (by decide) (by decide)
          have hI3 := ivX4_followChain (setT u t) hI2
          rw [show fnX4_followChain (setT u t) = _ from c4] at hI3
          rw [show fnX4_followChain (setT u t) = _ from c4]
          dsimp only at hI3 ⊢
          rcases c5 with ⟨hf, c5⟩ | ⟨hf, hf2, c5⟩
          · rw [if_pos hf, show lpX5_address 6 0 1 (mk th u D G P (0, b1, b2) t X 0) = _ from c5, if_pos (show (mk th u' D' G' P (0, b1, b2) u'.2.2.2.2.2.1 X' 0).2.2.2.2.2.2.2.2.2.2.2.1.1 = 0 from rfl)]
            exact actR (u := u') hI3.2 c1 c2 c3 (by omega) h35 h33
          · rw [if_neg hf, show lpX5_address 6 0 1 (mk th u D G P (0, b1, b2) t X 0) = _ from c5, if_neg (show ¬ (mk th u' D' G' P (bd f u') E' X' 0).2.2.2.2.2.2.2.2.2.2.2.1.1 = 0 from by show ¬ (bd f u').1 = 0; rw [bd1]; exact hf)]
            exact finF hf hf2 c1 c2 c3
    · have q35 : ¬ nI k ≤ 35 := fun z => h35 ((nIle (b := 35) (by omega) (by decide)).mp z)
      rw [if_neg (show ¬ nI k = 0 from nI_ne0 (by omega) (by omega)), if_neg q35, if_neg q35]
      by_cases h39 : 39 ≤ k
      · rw [if_pos (show 39 ≤ nI k from (nIle (a := 39) (by decide) (by omega)).mpr h39), if_neg (show ¬ nI k ≤ 38 from fun z => absurd ((nIle (b := 38) (by omega) (by decide)).mp z) (by omega)), wrongH]
        have e : fnX4_performWithoutAddress u (nI k) = (6, u) := by
          unfold fnX4_performWithoutAddress
          rw [if_neg (show ¬ nI k = 0 from nI_ne0 (by omega) (by omega)), if_neg n33, if_neg (show ¬ nI k = 36 from fun z => absurd ((nI_eq (by omega) (by decide)).mp (show nI k = nI 36 from z)) (by omega)), if_neg (show ¬ nI k = 37 from fun z => absurd ((nI_eq (by omega) (by decide)).mp (show nI k = nI 37 from z)) (by omega)), if_neg (show ¬ nI k = 38 from fun z => absurd ((nI_eq (by omega) (by decide)).mp (show nI k = nI 38 from z)) (by omega))]
        rw [e]
        exact finF (f := 6) (by decide) (by decide) hC hP hT
      · rw [if_neg (show ¬ 39 ≤ nI k from fun z => h39 ((nIle (a := 39) (by decide) (by omega)).mp z))]
        refine sysR hI hC hP hT ?_
        rcases (show k = 36 ∨ k = 37 ∨ k = 38 by omega) with rfl | rfl | rfl
        · exact Or.inl (by decide)
        · exact Or.inr (Or.inl (by decide))
        · exact Or.inr (Or.inr (by decide))
theorem perfO {q : Int64} {x' : TS} (h : fnX3_read u.2.2.2.2.2.2.2 u.2.2.2.2.1 2 = (q, x')) (hq : (0 : Int64) ≤ q) : fnX4_perform u = bP (u.1, u.2.1, u.2.2.1, u.2.2.2.1, u.2.2.2.2.1, u.2.2.2.2.1, u.2.2.2.2.2.2.1, x') q := by
  unfold fnX4_perform bP
  dsimp only
  rw [show fnX2_become u.2.2.2.2.2.1 u.2.2.2.2.1 = u.2.2.2.2.1 from rfl, h]
  dsimp only
  rw [if_pos hq, pEta, pEta, pEta, pEta]
theorem perfF {q : Int64} {x' : TS} (h : fnX3_read u.2.2.2.2.2.2.2 u.2.2.2.2.1 2 = (q, x')) (hq : ¬ (0 : Int64) ≤ q) : fnX4_perform u = (fnX4_faultOf q, (u.1, u.2.1, u.2.2.1, u.2.2.2.1, u.2.2.2.2.1, u.2.2.2.2.1, u.2.2.2.2.2.2.1, x')) := by
  unfold fnX4_perform
  dsimp only
  rw [show fnX2_become u.2.2.2.2.2.1 u.2.2.2.2.1 = u.2.2.2.2.1 from rfl, h]
  dsimp only
  rw [if_neg hq]
theorem performR (hI : iR u) (hC : RC u.2.2.2.2.2.2.2.2.1 D) (hP : RP u.2.2.2.2.2.2.2.2.2.1 G) (hT : RT u.2.2.2.1 P) : Rl th (cl (fnX4_perform u)) (stM (mk th u D G P B E X J)) := by
  obtain ⟨x', D', G', X', h1, h2, h3, h4, h6⟩ := execR (th := th) (u := u) (D := D) (G := G) (P := P) (b1 := B.2.1) (b2 := B.2.2) (E := E) (X := X) (J := 0) (y := u.2.2.2.2.1) hI.2.2.2.2.2.2.2 hC hP hI.2.2.2.2.1
  unfold stM
  rcases h6 with ⟨a, ha, e1, e2⟩ | ⟨f, hf, e1, e2⟩
  · rw [perfO e1 (ge36 (h2.1 _)), show fnX5_place ((mk th u D G P B E X J).1, (mk th u D G P B E X J).2.1, (mk th u D G P B E X J).2.2.1, (mk th u D G P B E X J).2.2.2.1, (mk th u D G P B E X J).2.2.2.2.1, (mk th u D G P B E X J).2.2.2.2.2.1, (mk th u D G P B E X J).2.2.2.2.2.2.1, (mk th u D G P B E X J).2.2.2.2.2.2.2.1, (mk th u D G P B E X J).2.2.2.2.2.2.2.2.1, (mk th u D G P B E X J).2.2.2.2.2.2.2.2.2.1, (mk th u D G P B E X J).2.2.2.2.2.2.2.2.2.2.1, (0, (mk th u D G P B E X J).2.2.2.2.2.2.2.2.2.2.2.1.2.1, (mk th u D G P B E X J).2.2.2.2.2.2.2.2.2.2.2.1.2.2), (mk th u D G P B E X J).2.2.2.2.2.2.2.2.2.2.2.2.1, (mk th u D G P B E X J).2.2.2.2.2.2.2.2.2.2.2.2.2.1, 0) (mk th u D G P B E X J).2.2.2.2.2.2.2.1.1 (mk th u D G P B E X J).2.2.2.2.2.2.2.1.2.1 (mk th u D G P B E X J).2.2.2.2.2.2.2.1.2.2 2 = _ from e2]
    dsimp only
    rw [if_pos (ge12 ha)]
    exact tlR (u := (u.1, u.2.1, u.2.2.1, u.2.2.2.1, u.2.2.2.2.1, u.2.2.2.2.1, u.2.2.2.2.2.2.1, x')) ⟨hI.1, hI.2.1, hI.2.2.1, hI.2.2.2.1, hI.2.2.2.2.1, hI.2.2.2.2.1, hI.2.2.2.2.2.2.1, h2⟩ h3 h4 hT (h2.1 _) rfl
  · rw [perfF e1 (ftN hf).2.1, (ftN hf).2.2, show fnX5_place ((mk th u D G P B E X J).1, (mk th u D G P B E X J).2.1, (mk th u D G P B E X J).2.2.1, (mk th u D G P B E X J).2.2.2.1, (mk th u D G P B E X J).2.2.2.2.1, (mk th u D G P B E X J).2.2.2.2.2.1, (mk th u D G P B E X J).2.2.2.2.2.2.1, (mk th u D G P B E X J).2.2.2.2.2.2.2.1, (mk th u D G P B E X J).2.2.2.2.2.2.2.2.1, (mk th u D G P B E X J).2.2.2.2.2.2.2.2.2.1, (mk th u D G P B E X J).2.2.2.2.2.2.2.2.2.2.1, (0, (mk th u D G P B E X J).2.2.2.2.2.2.2.2.2.2.2.1.2.1, (mk th u D G P B E X J).2.2.2.2.2.2.2.2.2.2.2.1.2.2), (mk th u D G P B E X J).2.2.2.2.2.2.2.2.2.2.2.2.1, (mk th u D G P B E X J).2.2.2.2.2.2.2.2.2.2.2.2.2.1, 0) (mk th u D G P B E X J).2.2.2.2.2.2.2.1.1 (mk th u D G P B E X J).2.2.2.2.2.2.2.1.2.1 (mk th u D G P B E X J).2.2.2.2.2.2.2.1.2.2 2 = _ from e2]
    dsimp only
    rw [if_neg (show ¬ (0 : Int32) ≤ -1 from by decide)]
    unfold tlM
    rw [if_neg (show ¬ (mk th (setS u x') D' G' P (f, u.2.2.2.2.1.1, u.2.2.2.2.1.2.1) E X' 0).2.2.2.2.2.2.2.2.2.2.2.1.1 = 0 from (ftZ hf).1)]
    exact finFt (u := (u.1, u.2.1, u.2.2.1, u.2.2.2.1, u.2.2.2.2.1, u.2.2.2.2.1, u.2.2.2.2.2.2.1, x')) hf h3 h4 hT
/-- one turn of the class -/
def turn (u : TR) : TR := if (fnX4_takeInterrupt u).1 = 0 then cl (fnX4_perform (fnX4_takeInterrupt u).2) else fnX4_enter (fnX4_takeInterrupt u).2 (fnX4_takeInterrupt u).1
theorem turnR {v : TM} (hI : iR u) (h : Rl th u v) : Rl th (turn u) (fnX5_step v) := by
  obtain ⟨D, G, P, B, E, X, J, rfl, hC, hP, hT⟩ := h
  have ea : (mk th u D G P B E X J).2.2.2.2.2.2.2.2.1.2.2.1 = askd u := rfl
  have eh : (mk th u D G P B E X J).2.2.2.2.2.2.2.2.1.1 = u.2.1.2.1 := rfl
  rw [stepE, ea, eh]
  unfold turn
  by_cases hh : u.2.1.2.1 = 0
  · by_cases ha : askd u = 0
    · have e : fnX4_takeInterrupt u = (0, u) := by unfold fnX4_takeInterrupt; rw [if_pos hh, if_pos ha]
      rw [e, if_pos rfl, if_pos (show askd u ≤ 0 from by rw [ha]; decide)]
      exact performR hI hC hP hT
    · have hn : ¬ askd u ≤ 0 := fun z => ha (Int32.toInt_inj.mp (by have := leJ z; have := hI.2.1.1; rw [show (0 : Int32).toInt = 0 from by decide] at *; exact Int.le_antisymm (by assumption) (by assumption)))
      have hi := intR (th := th) (B := B) (E := E) (X := X) (J := J) hI hh ha hC hP hT
      rw [if_neg hi.1, if_neg hn, if_pos hh]
      exact hi.2
  · have e : fnX4_takeInterrupt u = (0, u) := by unfold fnX4_takeInterrupt; rw [if_neg hh]
    rw [e, if_pos rfl, if_neg hh]
    have hp := performR (th := th) (B := B) (E := E) (X := X) (J := J) hI hC hP hT
    by_cases ha : askd u ≤ 0
    · rw [if_pos ha]; exact hp
    · rw [if_neg ha]; exact hp
theorem iturn (hI : iR u) : iR (turn u) := by
  unfold turn
  have h1 := ivX4_takeInterrupt u hI
  by_cases h : (fnX4_takeInterrupt u).1 = 0
  · rw [if_pos h]
    have h2 := ivX4_perform (fnX4_takeInterrupt u).2 h1.2
    unfold cl
    by_cases g : (fnX4_perform (fnX4_takeInterrupt u).2).1 = 0
    · rw [if_pos g]; exact h2.2
    · rw [if_neg g]; exact ivX4_enter _ _ h2.2 h2.1
  · rw [if_neg h]; exact ivX4_enter _ _ h1.2 h1.1
theorem runS (a0 : Int32) (n : Nat) (k : Int32) (u : TR) : lpX4_run a0 (n + 1) k u = if a0 ≤ k then (a0, u) else if u.2.1.2.2.1 = 0 then lpX4_run a0 n (k + 1) (turn u) else (k, u) := by
  rw [lpX4_run_s]
  by_cases h : a0 ≤ k
  · rw [if_pos h, if_pos h]
  · rw [if_neg h, if_neg h]
    by_cases g : u.2.1.2.2.1 = 0
    · rw [if_pos g, if_pos g]
      unfold turn cl
      dsimp only
      by_cases i : (fnX4_takeInterrupt u).1 = 0
      · rw [if_pos i, if_pos i]
        by_cases j : (fnX4_perform (fnX4_takeInterrupt u).2).1 = 0
        · rw [if_pos j, if_pos j]
        · rw [if_neg j, if_neg j]
      · rw [if_neg i, if_neg i]
    · rw [if_neg g, if_neg g]
theorem runLR {a0 : Int32} : ∀ (n m : Nat) (k : Int32) (u : TR) (v : TM), iR u → Rl 0 u v → 0 ≤ k.toInt → k.toInt ≤ a0.toInt → (a0.toInt - k.toInt).toNat < n → (a0.toInt - k.toInt).toNat < m →
    (lpX4_run a0 n k u).1 = (lpX5_run a0 m k v).1 ∧ Rl 0 (lpX4_run a0 n k u).2 (lpX5_run a0 m k v).2 := by
  intro n
  induction n with
  | zero => intro m k u v _ _ _ _ h _; omega
  | succ n ih =>
    intro m
    cases m with
    | zero => intro k u v _ _ _ _ _ h; omega
    | succ m =>
      intro k u v hI hR hk hk2 hn hm
      have e1 : v.1 = 0 := by obtain ⟨D, G, P, B, E, X, J, rfl, _⟩ := hR; rfl
      have e2 : v.2.2.2.2.2.2.2.2.1.2.1 = u.2.1.2.2.1 := by obtain ⟨D, G, P, B, E, X, J, rfl, _⟩ := hR; rfl
      rw [runS, lpX5_run_s, if_pos e1, e2]
      by_cases h : a0 ≤ k
      · have ek : a0 = k := Int32.toInt_inj.mp (by have := leJ h; omega)
        rw [if_pos h, if_pos h]
        exact ⟨ek, hR⟩
      · rw [if_neg h, if_neg h]
        by_cases g : u.2.1.2.2.1 = 0
        · rw [if_pos g, if_pos g]
          have hlt : k < a0 := Int32.not_le.mp h
          have hi := incI hlt
          have hl := ltJ hlt
          exact ih m (k + 1) (turn u) (fnX5_step v) (iturn hI) (turnR hI hR) (by omega) (by omega) (by omega) (by omega)
        · rw [if_neg g, if_neg g]
          exact ⟨rfl, hR⟩
end
