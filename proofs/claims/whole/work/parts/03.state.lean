/-! ranges of numbers, and what keeps them -/
abbrev i2 (x : Int32) : Prop := 0 ≤ x.toInt ∧ x.toInt ≤ 3
abbrev i3 (x : Int32) : Prop := 0 ≤ x.toInt ∧ x.toInt ≤ 7
abbrev i4 (x : Int32) : Prop := 0 ≤ x.toInt ∧ x.toInt ≤ 15
abbrev i5 (x : Int32) : Prop := 0 ≤ x.toInt ∧ x.toInt ≤ 4
abbrev i12 (x : Int32) : Prop := 0 ≤ x.toInt ∧ x.toInt ≤ 4095
abbrev i36 (x : Int64) : Prop := 0 ≤ x.toInt ∧ x.toInt ≤ 68719476735
abbrev iX3 (f : Nat → Int32) : Prop := ∀ i, i3 (f i)
abbrev iX4 (f : Nat → Int32) : Prop := ∀ i, i4 (f i)
abbrev iX12 (f : Nat → Int32) : Prop := ∀ i, i12 (f i)
abbrev iW (f : Nat → Int64) : Prop := ∀ i, i36 (f i)
theorem w_i2_i3 {x : Int32} (h : i2 x) : i3 x := ⟨h.1, by have := h.2; omega⟩
theorem w_i2_i4 {x : Int32} (h : i2 x) : i4 x := ⟨h.1, by have := h.2; omega⟩
theorem w_i3_i4 {x : Int32} (h : i3 x) : i4 x := ⟨h.1, by have := h.2; omega⟩
theorem w_i2_i12 {x : Int32} (h : i2 x) : i12 x := ⟨h.1, by have := h.2; omega⟩
theorem w_i3_i12 {x : Int32} (h : i3 x) : i12 x := ⟨h.1, by have := h.2; omega⟩
theorem w_i4_i12 {x : Int32} (h : i4 x) : i12 x := ⟨h.1, by have := h.2; omega⟩
theorem w_i5_i12 {x : Int32} (h : i5 x) : i12 x := ⟨h.1, by have := h.2; omega⟩
theorem mkr (x : Int32) {m : Int32} (k : Nat) (hm : m.toBitVec.toNat = 2 ^ k - 1) (hk : k ≤ 30) : 0 ≤ (x &&& m).toInt ∧ (x &&& m).toInt < 2 ^ k := by
  have h := vp_in_iff.mp (pk_andIn x k hm hk)
  exact ⟨h.1, by simpa using h.2⟩
theorem mk2 (x : Int32) : i2 (x &&& 3) := by have h := mkr x (m := 3) 2 (by decide) (by decide); exact ⟨h.1, by have := h.2; omega⟩
theorem mk3 (x : Int32) : i3 (x &&& 7) := by have h := mkr x (m := 7) 3 (by decide) (by decide); exact ⟨h.1, by have := h.2; omega⟩
theorem mk4 (x : Int32) : i4 (x &&& 15) := by have h := mkr x (m := 15) 4 (by decide) (by decide); exact ⟨h.1, by have := h.2; omega⟩
theorem mk12 (x : Int32) : i12 (x &&& 4095) := by have h := mkr x (m := 4095) 12 (by decide) (by decide); exact ⟨h.1, by have := h.2; omega⟩
theorem mkW (x : Int64) : i36 (x &&& 68719476735) := by
  have e : (x &&& 68719476735).toBitVec.toNat = x.toBitVec.toNat &&& 68719476735 := by
    rw [Int64.toBitVec_and, BitVec.toNat_and, show (Int64.toBitVec 68719476735).toNat = 68719476735 from by decide]
  have h : x.toBitVec.toNat &&& 68719476735 = x.toBitVec.toNat % 2 ^ 36 := Nat.and_two_pow_sub_one_eq_mod _ 36
  have hlt : (x &&& 68719476735).toBitVec.toNat < 2 ^ 36 := by rw [e, h]; exact Nat.mod_lt _ (by decide)
  have hi : (x &&& 68719476735).toInt = ((x &&& 68719476735).toBitVec.toNat : Int) := by
    show (x &&& 68719476735).toBitVec.toInt = _
    rw [BitVec.toInt_eq_toNat_cond, if_pos (by omega)]
  rw [i36, hi]
  omega
theorem mx3 {x y : Int32} (h : i3 x) (k : i3 y) : i3 (if x < y then y else x) := by split <;> assumption
theorem up12 {f : Nat → Int32} {j : Nat} {v : Int32} (h : iX12 f) (k : i12 v) : iX12 (upd f j v) := by
  intro i; unfold upd; split <;> first | exact k | exact h i
theorem up4 {f : Nat → Int32} {j : Nat} {v : Int32} (h : iX4 f) (k : i4 v) : iX4 (upd f j v) := by
  intro i; unfold upd; split <;> first | exact k | exact h i
theorem up3 {f : Nat → Int32} {j : Nat} {v : Int32} (h : iX3 f) (k : i3 v) : iX3 (upd f j v) := by
  intro i; unfold upd; split <;> first | exact k | exact h i
theorem upW {f : Nat → Int64} {j : Nat} {v : Int64} (h : iW f) (k : i36 v) : iW (vp_updL f j v) := by
  intro i; unfold vp_updL; split <;> first | exact k | exact h i
theorem iteI {α : Type} {P : α → Prop} {c : Prop} [Decidable c] {a b : α} (ht : c → P a) (hf : ¬ c → P b) : P (if c then a else b) := by
  by_cases h : c
  · rw [if_pos h]; exact ht h
  · rw [if_neg h]; exact hf h
theorem in12 {x : Int32} (h : i12 x) : vp_in x 4096 := vp_in_iff.mpr ⟨h.1, by have := h.2; omega⟩
theorem in2 {x : Int32} (h : i2 x) : vp_in x 4 := vp_in_iff.mpr ⟨h.1, by have := h.2; omega⟩
theorem c4 {x : Int32} (h : i2 x) : x = 0 ∨ x = 1 ∨ x = 2 ∨ x = 3 := by
  have : x.toInt = 0 ∨ x.toInt = 1 ∨ x.toInt = 2 ∨ x.toInt = 3 := by have := h.1; have := h.2; omega
  rcases this with h | h | h | h
  · exact Or.inl (Int32.toInt_inj.mp (h.trans (by decide)))
  · exact Or.inr (Or.inl (Int32.toInt_inj.mp (h.trans (by decide))))
  · exact Or.inr (Or.inr (Or.inl (Int32.toInt_inj.mp (h.trans (by decide)))))
  · exact Or.inr (Or.inr (Or.inr (Int32.toInt_inj.mp (h.trans (by decide)))))
theorem c4l {x : Int32} (h : i2 x) (h0 : ¬ x = 0) (h1 : ¬ x = 1) (h2 : ¬ x = 2) : x = 3 := by
  rcases c4 h with e | e | e | e
  · exact absurd e h0
  · exact absurd e h1
  · exact absurd e h2
  · exact e
theorem leI {x y : Int32} (h : x.toInt ≤ y.toInt) : x ≤ y := Int32.le_iff_toInt_le.mpr h
theorem leJ {x y : Int32} (h : x ≤ y) : x.toInt ≤ y.toInt := Int32.le_iff_toInt_le.mp h
theorem ltI {x y : Int32} (h : x.toInt < y.toInt) : x < y := Int32.lt_iff_toInt_lt.mpr h
theorem ltJ {x y : Int32} (h : x < y) : x.toInt < y.toInt := Int32.lt_iff_toInt_lt.mp h
theorem nleJ {x y : Int32} (h : ¬ x ≤ y) : y.toInt < x.toInt := ltJ (Int32.not_le.mp h)
theorem nltJ {x y : Int32} (h : ¬ x < y) : y.toInt ≤ x.toInt := leJ (Int32.not_lt.mp h)
/-- one more, below something -/
theorem incI {x y : Int32} (h : x < y) : (x + 1).toInt = x.toInt + 1 := by
  have h1 := ltJ h
  have h2 := Int32.toInt_lt y
  rw [Int32.toInt_add, show (1 : Int32).toInt = 1 from by decide]
  have h3 := Int32.le_toInt x
  apply Int.bmod_eq_of_le <;> omega

abbrev ipl (x : Int32) : Prop := x = -1 ∨ i2 x
theorem plI {x : Int32} (h : ipl x) (k : ¬ x = -1) : i2 x := h.elim (fun e => absurd e k) (fun e => e)
abbrev iloc (x : Int32) : Prop := (x = -2 ∨ x = -3 ∨ x = -4 ∨ x = -5) ∨ i12 x
theorem locI {x : Int32} (h : iloc x) (k : ¬ x < 0) : i12 x := by
  rcases h with (h | h | h | h) | h
  · subst h; exact absurd (by decide) k
  · subst h; exact absurd (by decide) k
  · subst h; exact absurd (by decide) k
  · subst h; exact absurd (by decide) k
  · exact h
abbrev ird (x : Int64) : Prop := (x = -2 ∨ x = -3 ∨ x = -4 ∨ x = -5) ∨ i36 x
theorem rdI {x : Int64} (h : ird x) (k : ¬ x < 0) : i36 x := by
  rcases h with (h | h | h | h) | h
  · subst h; exact absurd (by decide) k
  · subst h; exact absurd (by decide) k
  · subst h; exact absurd (by decide) k
  · subst h; exact absurd (by decide) k
  · exact h
theorem le4 {x : Int32} (h : i5 x) : x ≤ 4 := leI (by rw [show (4 : Int32).toInt = 4 from by decide]; exact h.2)
theorem ng {x : Int32} (h : 0 ≤ x.toInt) : ¬ x < 0 := fun k => by have := ltJ k; rw [show (0 : Int32).toInt = 0 from by decide] at this; omega
theorem nm1 {x : Int32} (h : 0 ≤ x.toInt) : ¬ x = -1 := fun k => by rw [k, show (-1 : Int32).toInt = -1 from by decide] at h; omega
theorem nq_i2 {x : Int32} (h : i2 x) : ¬ x = -1 := nm1 h.1
theorem nq_i3 {x : Int32} (h : i3 x) : ¬ x = -1 := nm1 h.1
theorem nq_i4 {x : Int32} (h : i4 x) : ¬ x = -1 := nm1 h.1
theorem nq_i5 {x : Int32} (h : i5 x) : ¬ x = -1 := nm1 h.1
theorem nq_i12 {x : Int32} (h : i12 x) : ¬ x = -1 := nm1 h.1
theorem nn_i2 {x : Int32} (h : i2 x) : ¬ x < 0 := ng h.1
theorem nn_i3 {x : Int32} (h : i3 x) : ¬ x < 0 := ng h.1
theorem nn_i4 {x : Int32} (h : i4 x) : ¬ x < 0 := ng h.1
theorem nn_i5 {x : Int32} (h : i5 x) : ¬ x < 0 := ng h.1
theorem nn_i12 {x : Int32} (h : i12 x) : ¬ x < 0 := ng h.1
/-- the place that is new in a row of copies -/
theorem addC {c : Int32} (h : i5 c) (k : ¬ 4 ≤ c) : i5 (c + 1) := by
  have k := Int32.not_le.mp k
  have e := incI k; have a := ltJ k
  rw [show (4 : Int32).toInt = 4 from by decide] at a
  exact ⟨by have := h.1; omega, by omega⟩
theorem addA {c : Int32} (h : i5 c) (k : ¬ 4 ≤ c) : i2 (c + 1 - 1) := by
  have k := Int32.not_le.mp k
  have a := ltJ k
  rw [show (4 : Int32).toInt = 4 from by decide] at a
  rw [Int32.add_sub_cancel]
  exact ⟨h.1, by omega⟩
theorem c5 {c : Int32} (h : i5 c) : c = 0 ∨ c = 1 ∨ c = 2 ∨ c = 3 ∨ c = 4 := by
  have : c.toInt = 0 ∨ c.toInt = 1 ∨ c.toInt = 2 ∨ c.toInt = 3 ∨ c.toInt = 4 := by have := h.1; have := h.2; omega
  rcases this with h | h | h | h | h
  · exact Or.inl (Int32.toInt_inj.mp (h.trans (by decide)))
  · exact Or.inr (Or.inl (Int32.toInt_inj.mp (h.trans (by decide))))
  · exact Or.inr (Or.inr (Or.inl (Int32.toInt_inj.mp (h.trans (by decide)))))
  · exact Or.inr (Or.inr (Or.inr (Or.inl (Int32.toInt_inj.mp (h.trans (by decide))))))
  · exact Or.inr (Or.inr (Or.inr (Or.inr (Int32.toInt_inj.mp (h.trans (by decide))))))
theorem addB {c : Int32} (h : i5 c) (k : 4 ≤ c) : i2 (c - 1) := by
  have a := leJ k
  rw [show (4 : Int32).toInt = 4 from by decide] at a
  have e : c = 4 := Int32.toInt_inj.mp (by rw [show (4 : Int32).toInt = 4 from by decide]; have := h.2; omega)
  subst e
  decide
theorem nameIn {c x : Int32} (h : i5 c) (h0 : ¬ x < 0) (h1 : ¬ c ≤ x) : vp_in x 4 := by
  have a := nltJ h0; have b := nleJ h1
  rw [show (0 : Int32).toInt = 0 from by decide] at a
  exact vp_in_iff.mpr ⟨a, by have := h.2; omega⟩
/-- a descriptor's two words lie in memory -/
theorem seg2 {x : Int32} (h : i4 x) : i12 (2 * x) ∧ i12 (2 * x + 1) := by
  obtain ⟨j, hj, rfl⟩ : ∃ j : Nat, j < 16 ∧ x = nI j := vp_in_of (vp_in_iff.mpr ⟨h.1, by have := h.2; omega⟩) (by decide)
  have key : ∀ j : Nat, j < 16 → i12 (2 * nI j) ∧ i12 (2 * nI j + 1) := by decide
  exact key j hj

theorem i36N {x : Int64} (h : i36 x) : ∃ k : Nat, k < 2 ^ 36 ∧ x = lN k := by
  have h0 : ¬ x < 0 := fun k => by
    have := Int64.lt_iff_toInt_lt.mp k
    rw [show (0 : Int64).toInt = 0 from by decide] at this
    have := h.1; omega
  obtain ⟨k, hk, rfl⟩ := pk_lOf h0
  refine ⟨k, ?_, rfl⟩
  have h2 := h.2
  rw [pk_lT hk] at h2
  omega
theorem lN36 {k : Nat} (h : k < 2 ^ 36) : i36 (lN k) := by
  rw [i36, pk_lT (by omega)]; omega
theorem lNbv (n : Nat) : (lN n).toBitVec = BitVec.ofNat 64 n := rfl
theorem orN {a b : Nat} (ha : a < 2 ^ 64) (hb : b < 2 ^ 64) : lN a ||| lN b = lN (a ||| b) := by
  apply Int64.toBitVec_inj.mp
  rw [Int64.toBitVec_or, lNbv, lNbv, lNbv]
  apply BitVec.eq_of_toNat_eq
  rw [BitVec.toNat_or, BitVec.toNat_ofNat, BitVec.toNat_ofNat, BitVec.toNat_ofNat, Nat.mod_eq_of_lt ha, Nat.mod_eq_of_lt hb, Nat.mod_eq_of_lt (Nat.or_lt_two_pow ha hb)]
theorem orW {x y : Int64} (h : i36 x) (k : i36 y) : i36 (x ||| y) := by
  obtain ⟨a, ha, rfl⟩ := i36N h
  obtain ⟨b, hb, rfl⟩ := i36N k
  rw [orN (by omega) (by omega)]
  exact lN36 (Nat.or_lt_two_pow ha hb)
theorem i12N {x : Int32} (h : i12 x) : ∃ k : Nat, k < 4096 ∧ x = nI k := vp_in_of (in12 h) (by decide)
theorem nI12 {k : Nat} (h : k < 4096) : i12 (nI k) := by
  rw [i12, nI_toInt (by omega)]; omega
/-- a page's word and a word's number give a place in memory -/
theorem pgN {k j : Nat} (hk : k < 2 ^ 36) (hj : j < 4096) : (lN k - lN k / 64 * 64).toInt32 * 64 + (nI j - nI j / 64 * 64) = nI (k % 64 * 64 + j % 64) := by
  have e1 : lN k - lN k / 64 * 64 = lN (k % 64) := pk_lRem (b := 64) (by omega) (by decide) (by decide)
  have e2 : nI j - nI j / 64 * 64 = nI (j % 64) := pk_rem (d := 64) (by omega) (by decide) (by decide)
  rw [e1, e2, lN_i, show (64 : Int32) = nI 64 from by decide, pk_mul, nI_add]
theorem pgI {x : Int64} {w : Int32} (h : i36 x) (k : i12 w) : i12 ((x - x / 64 * 64).toInt32 * 64 + (w - w / 64 * 64)) := by
  obtain ⟨a, ha, rfl⟩ := i36N h
  obtain ⟨b, hb, rfl⟩ := i12N k
  rw [pgN ha hb]
  exact nI12 (by omega)
abbrev irf (x : Int32) : Prop := x = 0 ∨ x = 1 ∨ x = 3 ∨ x = 4
theorem rfN {x : Int32} (h : irf x) (k : ¬ x = 0) : -1 - x = -2 ∨ -1 - x = -3 ∨ -1 - x = -4 ∨ -1 - x = -5 := by
  rcases h with h | h | h | h
  · exact absurd h k
  · subst h; decide
  · subst h; decide
  · subst h; decide
theorem i2lN {x : Int32} (h : iloc x) (k : x < 0) : ird x.toInt64 := by
  rcases h with (h | h | h | h) | h
  · subst h; exact Or.inl (by decide)
  · subst h; exact Or.inl (by decide)
  · subst h; exact Or.inl (by decide)
  · subst h; exact Or.inl (by decide)
  · exact absurd k (nn_i12 h)
abbrev i10 (x : Int32) : Prop := 0 ≤ x.toInt ∧ x.toInt ≤ 10
abbrev i100 (x : Int32) : Prop := 0 ≤ x.toInt ∧ x.toInt ≤ 100
theorem nn_i10 {x : Int32} (h : i10 x) : ¬ x < 0 := ng h.1
theorem nq_i10 {x : Int32} (h : i10 x) : ¬ x = -1 := nm1 h.1
theorem nn_i100 {x : Int32} (h : i100 x) : ¬ x < 0 := ng h.1
theorem nq_i100 {x : Int32} (h : i100 x) : ¬ x = -1 := nm1 h.1
theorem leK_i2 {x c : Int32} (h : i2 x) (k : 3 ≤ c.toInt) : x ≤ c := leI (Int.le_trans h.2 k)
theorem leK_i3 {x c : Int32} (h : i3 x) (k : 7 ≤ c.toInt) : x ≤ c := leI (Int.le_trans h.2 k)
theorem leK_i4 {x c : Int32} (h : i4 x) (k : 15 ≤ c.toInt) : x ≤ c := leI (Int.le_trans h.2 k)
theorem leK_i5 {x c : Int32} (h : i5 x) (k : 4 ≤ c.toInt) : x ≤ c := leI (Int.le_trans h.2 k)
theorem leK_i10 {x c : Int32} (h : i10 x) (k : 10 ≤ c.toInt) : x ≤ c := leI (Int.le_trans h.2 k)
theorem leK_i100 {x c : Int32} (h : i100 x) (k : 100 ≤ c.toInt) : x ≤ c := leI (Int.le_trans h.2 k)
theorem leK_i12 {x c : Int32} (h : i12 x) (k : 4095 ≤ c.toInt) : x ≤ c := leI (Int.le_trans h.2 k)
theorem i2lW {x : Int32} (h : i12 x) : i36 x.toInt64 := by
  rw [i36, Int32.toInt_toInt64]; exact ⟨h.1, by have := h.2; omega⟩
theorem i4N {x : Int32} (h : i4 x) : ∃ j : Nat, j < 16 ∧ x = nI j := vp_in_of (vp_in_iff.mpr ⟨h.1, by have := h.2; omega⟩) (by decide)
theorem sh24 {x : Int32} (h : i4 x) : i36 (x.toInt64 <<< ((24 : Int32).toInt64 &&& 63)) := by
  obtain ⟨j, hj, rfl⟩ := i4N h
  have key : ∀ j : Nat, j < 16 → i36 ((nI j).toInt64 <<< ((24 : Int32).toInt64 &&& 63)) := by decide
  exact key j hj
theorem sh21 {x : Int32} (h : i3 x) : i36 (x.toInt64 <<< ((21 : Int32).toInt64 &&& 63)) := by
  obtain ⟨j, hj, rfl⟩ := i4N (w_i3_i4 h)
  have key : ∀ j : Nat, j < 16 → i36 ((nI j).toInt64 <<< ((21 : Int32).toInt64 &&& 63)) := by decide
  exact key j hj
/-- asked: one bit goes, one comes -/
theorem askm {x : Int32} (c : Int32) (key : ∀ j : Nat, j < 16 → i4 (nI j &&& c)) (h : i4 x) : i4 (x &&& c) := by
  obtain ⟨j, hj, rfl⟩ := i4N h
  exact key j hj
theorem askp {x k : Int32} (h : i4 x) (g : i2 k) : i4 (x ||| (1 <<< (k &&& 31))) := by
  obtain ⟨j, hj, rfl⟩ := i4N h
  rcases c4 g with e | e | e | e <;> subst e
  · have key : ∀ j : Nat, j < 16 → i4 (nI j ||| (1 <<< ((0 : Int32) &&& 31))) := by decide
    exact key j hj
  · have key : ∀ j : Nat, j < 16 → i4 (nI j ||| (1 <<< ((1 : Int32) &&& 31))) := by decide
    exact key j hj
  · have key : ∀ j : Nat, j < 16 → i4 (nI j ||| (1 <<< ((2 : Int32) &&& 31))) := by decide
    exact key j hj
  · have key : ∀ j : Nat, j < 16 → i4 (nI j ||| (1 <<< ((3 : Int32) &&& 31))) := by decide
    exact key j hj
theorem ent {x : Int32} (h : i4 x) : i12 (16 + x) := by
  obtain ⟨j, hj, rfl⟩ := i4N h
  have key : ∀ j : Nat, j < 16 → i12 (16 + nI j) := by decide
  exact key j hj
theorem c11 {x : Int32} (h : i10 x) : ∃ j : Nat, j < 11 ∧ x = nI j := vp_in_of (vp_in_iff.mpr ⟨h.1, by have := h.2; omega⟩) (by decide)
theorem kx {x : Int32} (h : i10 x) (h0 : ¬ x = 0) (h1 : ¬ x = 1) (h5 : x ≤ 5) : i2 (x - 2) := by
  obtain ⟨j, hj, rfl⟩ := c11 h
  have key : ∀ j : Nat, j < 11 → ¬ nI j = 0 → ¬ nI j = 1 → nI j ≤ 5 → i2 (nI j - 2) := by decide
  exact key j hj h0 h1 h5
theorem kp {x : Int32} (h : i10 x) (h5 : ¬ x ≤ 5) (h9 : x ≤ 9) : i2 (x - 6) := by
  obtain ⟨j, hj, rfl⟩ := c11 h
  have key : ∀ j : Nat, j < 11 → ¬ nI j ≤ 5 → nI j ≤ 9 → i2 (nI j - 6) := by decide
  exact key j hj h5 h9
abbrev irc (x : Int32) : Prop := x = -1 ∨ i3 x
theorem rcI {x : Int32} (h : irc x) (k : ¬ x = -1) : i3 x := h.elim (fun e => absurd e k) (fun e => e)

abbrev iw (x : Int32) : Prop := 0 ≤ x.toInt ∧ x.toInt ≤ 2
theorem nn_iw {x : Int32} (h : iw x) : ¬ x < 0 := ng h.1
theorem nq_iw {x : Int32} (h : iw x) : ¬ x = -1 := nm1 h.1
theorem leK_iw {x c : Int32} (h : iw x) (k : 2 ≤ c.toInt) : x ≤ c := leI (Int.le_trans h.2 k)
theorem lpM {k b : Int32} {n : Nat} (h : k < b) (hn : (b.toInt - k.toInt).toNat < n + 1) : (b.toInt - (k + 1).toInt).toNat < n := by
  rw [incI h]; have := ltJ h; omega
theorem lpK {k b : Int32} (h : k < b) (hk : 0 ≤ k.toInt) : 0 ≤ (k + 1).toInt := by rw [incI h]; omega
theorem lp0 {b : Int32} (h : i100 b) : (b.toInt - (0 : Int32).toInt).toNat < 101 := by
  rw [show (0 : Int32).toInt = 0 from by decide]; have := h.2; omega

theorem lvc {ls : Array Slot} {n i : Nat} {x y : Int32} {r : List (Nat × Value)} (h : x = y) (hl : lv_has ls n ((i, .int x) :: r)) : lv_has ls n ((i, .int y) :: r) := h ▸ hl
theorem plN {x : Int32} (h : ipl x) (k : ¬ x < 0) : i2 x := h.elim (fun e => by subst e; exact absurd (by decide) k) (fun e => e)
abbrev ipc (x : Int32) : Prop := x = -1 ∨ i12 x
theorem pcI {x : Int32} (h : ipc x) (k : ¬ x < 0) : i12 x := h.elim (fun e => by subst e; exact absurd (by decide) k) (fun e => e)
theorem in2_5 {x : Int32} (h : i2 x) : vp_in x 5 := vp_in_iff.mpr ⟨h.1, by have := h.2; omega⟩
abbrev i6 (x : Int32) : Prop := 0 ≤ x.toInt ∧ x.toInt ≤ 63
theorem mk6 (x : Int32) : i6 (x &&& 63) := by have h := mkr x (m := 63) 6 (by decide) (by decide); exact ⟨h.1, by have := h.2; omega⟩
theorem mkI {x c : Int32} {m : Int} (h : ¬ x < 0) (k : x ≤ c) (hc : c.toInt ≤ m) : 0 ≤ x.toInt ∧ x.toInt ≤ m := by
  have a := nltJ h; rw [show (0 : Int32).toInt = 0 from by decide] at a
  exact ⟨a, Int.le_trans (leJ k) hc⟩
theorem kx6 {x : Int32} (h : i10 x) (h0 : ¬ x = 0) (h1 : ¬ x = 1) (h5 : ¬ 6 ≤ x) : i2 (x - 2) := by
  obtain ⟨j, hj, rfl⟩ := c11 h
  have key : ∀ j : Nat, j < 11 → ¬ nI j = 0 → ¬ nI j = 1 → ¬ 6 ≤ nI j → i2 (nI j - 2) := by decide
  exact key j hj h0 h1 h5
theorem kxg {x : Int32} (h : i10 x) (h0 : 2 ≤ x) (h5 : ¬ 6 ≤ x) : i2 (x - 2) := by
  obtain ⟨j, hj, rfl⟩ := c11 h
  have key : ∀ j : Nat, j < 11 → 2 ≤ nI j → ¬ 6 ≤ nI j → i2 (nI j - 2) := by decide
  exact key j hj h0 h5
theorem kp6 {x : Int32} (h : i10 x) (h5 : 6 ≤ x) (h9 : ¬ 10 ≤ x) : i2 (x - 6) := by
  obtain ⟨j, hj, rfl⟩ := c11 h
  have key : ∀ j : Nat, j < 11 → 6 ≤ nI j → ¬ 10 ≤ nI j → i2 (nI j - 6) := by decide
  exact key j hj h5 h9
theorem nameIn5 {c x : Int32} (h : i5 c) (h0 : ¬ x < 0) (h1 : ¬ c ≤ x) : vp_in x 5 := by
  have a := nltJ h0; have b := nleJ h1
  rw [show (0 : Int32).toInt = 0 from by decide] at a
  exact vp_in_iff.mpr ⟨a, by have := h.2; omega⟩
theorem i6N {x : Int32} (h : i6 x) : ∃ k : Nat, k < 64 ∧ x = nI k := vp_in_of (vp_in_iff.mpr ⟨h.1, by have := h.2; omega⟩) (by decide)
theorem pgM {b w : Int32} (h : i6 b) (k : i12 w) : i12 (64 * b + (w - w / 64 * 64)) := by
  obtain ⟨a, ha, rfl⟩ := i6N h
  obtain ⟨c, hc, rfl⟩ := i12N k
  have e2 : nI c - nI c / 64 * 64 = nI (c % 64) := pk_rem (d := 64) (by omega) (by decide) (by decide)
  rw [e2, show (64 : Int32) = nI 64 from by decide, pk_mul, nI_add]
  exact nI12 (by omega)
theorem lpA5 {k : Int32} (h : 0 ≤ k.toInt ∧ k.toInt ≤ 5) (k5 : ¬ k = 5) : k < 5 := ltI (by
  have : ¬ k.toInt = 5 := neI k5 (by decide)
  rw [show (5 : Int32).toInt = 5 from by decide]; omega)
theorem lpK5 {k : Int32} (h : 0 ≤ k.toInt ∧ k.toInt ≤ 5) (k5 : k < 5) : 0 ≤ (k + 1).toInt ∧ (k + 1).toInt ≤ 5 := by
  rw [incI k5]; have := ltJ k5; rw [show (5 : Int32).toInt = 5 from by decide] at this; omega
/-- one of the four bits stands -/
theorem ask3 {x : Int32} (h : i4 x) (hp : ¬ x ≤ 0) (h0 : (x >>> ((0 : Int32) &&& 31)) &&& 1 = 0) (h1 : (x >>> ((1 : Int32) &&& 31)) &&& 1 = 0) (h2 : (x >>> ((2 : Int32) &&& 31)) &&& 1 = 0) : ¬ (x >>> ((3 : Int32) &&& 31)) &&& 1 = 0 := by
  obtain ⟨j, hj, rfl⟩ := i4N h
  have key : ∀ j : Nat, j < 16 → ¬ nI j ≤ 0 → (nI j >>> ((0 : Int32) &&& 31)) &&& 1 = 0 → (nI j >>> ((1 : Int32) &&& 31)) &&& 1 = 0 → (nI j >>> ((2 : Int32) &&& 31)) &&& 1 = 0 → ¬ (nI j >>> ((3 : Int32) &&& 31)) &&& 1 = 0 := by decide
  exact key j hj hp h0 h1 h2
theorem lpR (a : Int32) : (a.toInt - (0 : Int32).toInt).toNat < a.toInt.toNat + 1 := by
  rw [show (0 : Int32).toInt = 0 from by decide]; omega
abbrev TA : Type := Int64 × Int64
abbrev TF : Type := Int32 × Int32 × Int32 × Int32 × Int32 × Int32 × Int32
abbrev TP : Type := Int32 × Int32 × Int32
abbrev T4 : Type := TP × TP × TP × TP
abbrev TC : Type := (Nat → Int32) × (Nat → Int64) × (Nat → Int64) × Int32
abbrev TD : Type := Int32 × Int32 × Int32 × Int32 × Int32 × Int32 × Int32 × Int32 × Int32 × Int32 × Int32
abbrev TS : Type := (Nat → Int64) × TC × TC × TD
abbrev TR : Type := TA × TF × (Nat → Int32) × T4 × TP × TP × TP × TS
abbrev TMD : Type := Int32 × (Nat → Int32) × (Nat → Int64) × (Nat → Int64)
abbrev TMG : Type := Int32 × (Nat → Int32) × (Nat → Int64)
abbrev TMA : Type := Int64 × Int64
abbrev TMP : Type := (Nat → Int32) × (Nat → Int32) × (Nat → Int32)
abbrev TMQ : Type := Int32 × Int32 × Int32
abbrev TMH : Type := Int32 × Int32 × Int32 × Int32
abbrev TMT : Type := Int32 × Int32 × Int32
abbrev TMB : Type := Int32 × Int32 × Int32
abbrev TMX : Type := Int64 × Int64
abbrev TM : Type := Int32 × (Nat → Int64) × TMD × TMG × TMA × (Nat → Int32) × TMP × TMQ × TMH × TMQ × TMT × TMB × TMQ × TMX × Int32
abbrev iA (x : TA) : Prop := i36 x.1 ∧ i36 x.2
abbrev iF (x : TF) : Prop := i4 x.2.2.2.2.2.2
abbrev iP (x : TP) : Prop := i4 x.1 ∧ i12 x.2.1 ∧ i3 x.2.2
abbrev iP4 (x : T4) : Prop := iP x.1 ∧ iP x.2.1 ∧ iP x.2.2.1 ∧ iP x.2.2.2
abbrev iC (x : TC) : Prop := iW x.2.1 ∧ i5 x.2.2.2
abbrev iD (x : TD) : Prop := i3 x.2.2.2.2.1 ∧ i3 x.2.2.2.2.2.1
abbrev iS (x : TS) : Prop := iW x.1 ∧ iC x.2.1 ∧ iC x.2.2.1 ∧ iD x.2.2.2
abbrev iR (x : TR) : Prop := iA x.1 ∧ iF x.2.1 ∧ iX12 x.2.2.1 ∧ iP4 x.2.2.2.1 ∧ iP x.2.2.2.2.1 ∧ iP x.2.2.2.2.2.1 ∧ iP x.2.2.2.2.2.2.1 ∧ iS x.2.2.2.2.2.2.2
abbrev iMD (x : TMD) : Prop := i5 x.1
abbrev iMG (x : TMG) : Prop := i5 x.1
abbrev iMP (x : TMP) : Prop := iX4 x.1 ∧ iX12 x.2.1
abbrev iMQ (x : TMQ) : Prop := i4 x.1 ∧ i12 x.2.1
abbrev iMH (x : TMH) : Prop := i4 x.2.2.1
abbrev iMB (x : TMB) : Prop := i4 x.1
abbrev iM (x : TM) : Prop := iMD x.2.2.1 ∧ iMG x.2.2.2.1 ∧ iMP x.2.2.2.2.2.2.1 ∧ iMQ x.2.2.2.2.2.2.2.1 ∧ iMH x.2.2.2.2.2.2.2.2.1 ∧ iMQ x.2.2.2.2.2.2.2.2.2.1 ∧ iMB x.2.2.2.2.2.2.2.2.2.2.2.1 ∧ iMQ x.2.2.2.2.2.2.2.2.2.2.2.2.1
def pa4 (a b c d : Nat) : Nat → Option Nat := va_up (va_up (va_up (va_up (fun _ => none) 0 (some a)) 1 (some b)) 2 (some c)) 3 (some d)
abbrev tz (cI cJ cP : ClassId) : List (ClassId × FieldType) := [(cI, .int), (cJ, .long), (cP, .object "RingProcessor$Pointer")]
def wP (b0 : Nat) (x : TP) : va_W := [(b0, .inr (2, [.int x.1, .int x.2.1, .int x.2.2]))]
def wP2 (b0 b1 : Nat) (x y : TP) : va_W := [(b0, .inr (2, [.int x.1, .int x.2.1, .int x.2.2])), (b1, .inr (2, [.int y.1, .int y.2.1, .int y.2.2]))]
def wD (b0 : Nat) (x : TD) : va_W := [(b0, .inr (1, [.int x.1, .int x.2.1, .int x.2.2.1, .int x.2.2.2.1, .int x.2.2.2.2.1, .int x.2.2.2.2.2.1, .int x.2.2.2.2.2.2.1, .int x.2.2.2.2.2.2.2.1, .int x.2.2.2.2.2.2.2.2.1, .int x.2.2.2.2.2.2.2.2.2.1, .int x.2.2.2.2.2.2.2.2.2.2]))]
def wC (cI cJ : ClassId) (b0 b1 b2 b3 : Nat) (x : TC) : va_W := [(b0, .inr (0, [.ref (b1), .ref (b2), .ref (b3), .int x.2.2.2])), (b1, .inl (cI, 4, .inl x.1)), (b2, .inl (cJ, 4, .inr (.inl x.2.1))), (b3, .inl (cJ, 4, .inr (.inl x.2.2.1)))]
def wS (cI cJ : ClassId) (ad : Nat → Nat) (x : TS) : va_W := [(ad 0, .inr (3, [.ref (ad 1), .ref (ad 2), .ref (ad 6), .ref (ad 10)])), (ad 1, .inl (cJ, 4096, .inr (.inl x.1))), (ad 2, .inr (0, [.ref (ad 3), .ref (ad 4), .ref (ad 5), .int x.2.1.2.2.2])), (ad 3, .inl (cI, 4, .inl x.2.1.1)), (ad 4, .inl (cJ, 4, .inr (.inl x.2.1.2.1))), (ad 5, .inl (cJ, 4, .inr (.inl x.2.1.2.2.1))), (ad 6, .inr (0, [.ref (ad 7), .ref (ad 8), .ref (ad 9), .int x.2.2.1.2.2.2])), (ad 7, .inl (cI, 4, .inl x.2.2.1.1)), (ad 8, .inl (cJ, 4, .inr (.inl x.2.2.1.2.1))), (ad 9, .inl (cJ, 4, .inr (.inl x.2.2.1.2.2.1))), (ad 10, .inr (1, [.int x.2.2.2.1, .int x.2.2.2.2.1, .int x.2.2.2.2.2.1, .int x.2.2.2.2.2.2.1, .int x.2.2.2.2.2.2.2.1, .int x.2.2.2.2.2.2.2.2.1, .int x.2.2.2.2.2.2.2.2.2.1, .int x.2.2.2.2.2.2.2.2.2.2.1, .int x.2.2.2.2.2.2.2.2.2.2.2.1, .int x.2.2.2.2.2.2.2.2.2.2.2.2.1, .int x.2.2.2.2.2.2.2.2.2.2.2.2.2]))]
def wSP (cI cJ : ClassId) (ad : Nat → Nat) (x : TS) (y : TP) : va_W := [(ad 0, .inr (3, [.ref (ad 1), .ref (ad 2), .ref (ad 6), .ref (ad 10)])), (ad 1, .inl (cJ, 4096, .inr (.inl x.1))), (ad 2, .inr (0, [.ref (ad 3), .ref (ad 4), .ref (ad 5), .int x.2.1.2.2.2])), (ad 3, .inl (cI, 4, .inl x.2.1.1)), (ad 4, .inl (cJ, 4, .inr (.inl x.2.1.2.1))), (ad 5, .inl (cJ, 4, .inr (.inl x.2.1.2.2.1))), (ad 6, .inr (0, [.ref (ad 7), .ref (ad 8), .ref (ad 9), .int x.2.2.1.2.2.2])), (ad 7, .inl (cI, 4, .inl x.2.2.1.1)), (ad 8, .inl (cJ, 4, .inr (.inl x.2.2.1.2.1))), (ad 9, .inl (cJ, 4, .inr (.inl x.2.2.1.2.2.1))), (ad 10, .inr (1, [.int x.2.2.2.1, .int x.2.2.2.2.1, .int x.2.2.2.2.2.1, .int x.2.2.2.2.2.2.1, .int x.2.2.2.2.2.2.2.1, .int x.2.2.2.2.2.2.2.2.1, .int x.2.2.2.2.2.2.2.2.2.1, .int x.2.2.2.2.2.2.2.2.2.2.1, .int x.2.2.2.2.2.2.2.2.2.2.2.1, .int x.2.2.2.2.2.2.2.2.2.2.2.2.1, .int x.2.2.2.2.2.2.2.2.2.2.2.2.2])), (ad 11, .inr (2, [.int y.1, .int y.2.1, .int y.2.2]))]
def wR (cI cJ cP : ClassId) (ad : Nat → Nat) (x : TR) : va_W := [(ad 0, .inr (4, [.ref (ad 1), .long x.1.1, .long x.1.2, .ref (ad 13), .ref (ad 14), .ref (ad 19), .ref (ad 12), .ref (ad 20), .int x.2.1.1, .int x.2.1.2.1, .int x.2.1.2.2.1, .int x.2.1.2.2.2.1, .int x.2.1.2.2.2.2.1, .int x.2.1.2.2.2.2.2.1, .int x.2.1.2.2.2.2.2.2])), (ad 1, .inr (3, [.ref (ad 2), .ref (ad 3), .ref (ad 7), .ref (ad 11)])), (ad 2, .inl (cJ, 4096, .inr (.inl x.2.2.2.2.2.2.2.1))), (ad 3, .inr (0, [.ref (ad 4), .ref (ad 5), .ref (ad 6), .int x.2.2.2.2.2.2.2.2.1.2.2.2])), (ad 4, .inl (cI, 4, .inl x.2.2.2.2.2.2.2.2.1.1)), (ad 5, .inl (cJ, 4, .inr (.inl x.2.2.2.2.2.2.2.2.1.2.1))), (ad 6, .inl (cJ, 4, .inr (.inl x.2.2.2.2.2.2.2.2.1.2.2.1))), (ad 7, .inr (0, [.ref (ad 8), .ref (ad 9), .ref (ad 10), .int x.2.2.2.2.2.2.2.2.2.1.2.2.2])), (ad 8, .inl (cI, 4, .inl x.2.2.2.2.2.2.2.2.2.1.1)), (ad 9, .inl (cJ, 4, .inr (.inl x.2.2.2.2.2.2.2.2.2.1.2.1))), (ad 10, .inl (cJ, 4, .inr (.inl x.2.2.2.2.2.2.2.2.2.1.2.2.1))), (ad 11, .inr (1, [.int x.2.2.2.2.2.2.2.2.2.2.1, .int x.2.2.2.2.2.2.2.2.2.2.2.1, .int x.2.2.2.2.2.2.2.2.2.2.2.2.1, .int x.2.2.2.2.2.2.2.2.2.2.2.2.2.1, .int x.2.2.2.2.2.2.2.2.2.2.2.2.2.2.1, .int x.2.2.2.2.2.2.2.2.2.2.2.2.2.2.2.1, .int x.2.2.2.2.2.2.2.2.2.2.2.2.2.2.2.2.1, .int x.2.2.2.2.2.2.2.2.2.2.2.2.2.2.2.2.2.1, .int x.2.2.2.2.2.2.2.2.2.2.2.2.2.2.2.2.2.2.1, .int x.2.2.2.2.2.2.2.2.2.2.2.2.2.2.2.2.2.2.2.1, .int x.2.2.2.2.2.2.2.2.2.2.2.2.2.2.2.2.2.2.2.2])), (ad 12, .inr (2, [.int x.2.2.2.2.2.1.1, .int x.2.2.2.2.2.1.2.1, .int x.2.2.2.2.2.1.2.2])), (ad 13, .inl (cI, 4, .inl x.2.2.1)), (ad 14, .inl (cP, 4, .inr (.inr (.inr (.inr (pa4 (ad 15) (ad 16) (ad 17) (ad 18))))))), (ad 15, .inr (2, [.int x.2.2.2.1.1.1, .int x.2.2.2.1.1.2.1, .int x.2.2.2.1.1.2.2])), (ad 16, .inr (2, [.int x.2.2.2.1.2.1.1, .int x.2.2.2.1.2.1.2.1, .int x.2.2.2.1.2.1.2.2])), (ad 17, .inr (2, [.int x.2.2.2.1.2.2.1.1, .int x.2.2.2.1.2.2.1.2.1, .int x.2.2.2.1.2.2.1.2.2])), (ad 18, .inr (2, [.int x.2.2.2.1.2.2.2.1, .int x.2.2.2.1.2.2.2.2.1, .int x.2.2.2.1.2.2.2.2.2])), (ad 19, .inr (2, [.int x.2.2.2.2.1.1, .int x.2.2.2.2.1.2.1, .int x.2.2.2.2.1.2.2])), (ad 20, .inr (2, [.int x.2.2.2.2.2.2.1.1, .int x.2.2.2.2.2.2.1.2.1, .int x.2.2.2.2.2.2.1.2.2]))]
def wM (cI cJ : ClassId) (ad : Nat → Nat) (x : TM) : va_W := [(ad 0, .inr (5, [.int x.1, .ref (ad 1), .int x.2.2.1.1, .int x.2.2.2.1.1, .ref (ad 2), .ref (ad 3), .ref (ad 4), .ref (ad 5), .ref (ad 6), .long x.2.2.2.2.1.1, .long x.2.2.2.2.1.2, .ref (ad 7), .ref (ad 8), .ref (ad 9), .ref (ad 10), .int x.2.2.2.2.2.2.2.1.1, .int x.2.2.2.2.2.2.2.1.2.1, .int x.2.2.2.2.2.2.2.1.2.2, .int x.2.2.2.2.2.2.2.2.1.1, .int x.2.2.2.2.2.2.2.2.1.2.1, .int x.2.2.2.2.2.2.2.2.1.2.2.1, .int x.2.2.2.2.2.2.2.2.1.2.2.2, .int x.2.2.2.2.2.2.2.2.2.1.1, .int x.2.2.2.2.2.2.2.2.2.1.2.1, .int x.2.2.2.2.2.2.2.2.2.1.2.2, .int x.2.2.2.2.2.2.2.2.2.2.1.1, .int x.2.2.2.2.2.2.2.2.2.2.1.2.1, .int x.2.2.2.2.2.2.2.2.2.2.1.2.2, .int x.2.2.2.2.2.2.2.2.2.2.2.1.1, .int x.2.2.2.2.2.2.2.2.2.2.2.1.2.1, .int x.2.2.2.2.2.2.2.2.2.2.2.1.2.2, .int x.2.2.2.2.2.2.2.2.2.2.2.2.1.1, .int x.2.2.2.2.2.2.2.2.2.2.2.2.1.2.1, .int x.2.2.2.2.2.2.2.2.2.2.2.2.1.2.2, .long x.2.2.2.2.2.2.2.2.2.2.2.2.2.1.1, .long x.2.2.2.2.2.2.2.2.2.2.2.2.2.1.2, .int x.2.2.2.2.2.2.2.2.2.2.2.2.2.2])), (ad 1, .inl (cJ, 4096, .inr (.inl x.2.1))), (ad 2, .inl (cI, 5, .inl x.2.2.1.2.1)), (ad 3, .inl (cI, 5, .inl x.2.2.2.1.2.1)), (ad 4, .inl (cJ, 5, .inr (.inl x.2.2.1.2.2.1))), (ad 5, .inl (cJ, 5, .inr (.inl x.2.2.1.2.2.2))), (ad 6, .inl (cJ, 5, .inr (.inl x.2.2.2.1.2.2))), (ad 7, .inl (cI, 4, .inl x.2.2.2.2.2.1)), (ad 8, .inl (cI, 4, .inl x.2.2.2.2.2.2.1.1)), (ad 9, .inl (cI, 4, .inl x.2.2.2.2.2.2.1.2.1)), (ad 10, .inl (cI, 4, .inl x.2.2.2.2.2.2.1.2.2))]
