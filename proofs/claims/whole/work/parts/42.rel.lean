/-! bits of a word, said in numbers -/
theorem shBV (w s : Int64) (β : Nat) (hs : (s.toBitVec.smod 64).toNat = β) : (w >>> s).toBitVec = w.toBitVec.sshiftRight β := by
  show BitVec.sshiftRight' w.toBitVec (s.toBitVec.smod 64) = _
  rw [BitVec.sshiftRight', hs]
theorem bitsW (w : Int64) {b n : Int32} (β ν : Nat) (hb : ((b.toInt64 &&& 63).toBitVec.smod 64).toNat = β) (hn : (((1 : Int32) <<< (n &&& 31)) - 1).toBitVec.toNat = 2 ^ ν - 1) (hν : ν ≤ 32) (hβ : β + ν ≤ 64) : fnX5_bits w b n = nI (w.toBitVec.toNat / 2 ^ β % 2 ^ ν) := by
  unfold fnX5_bits
  rw [pk_and _ ν hn]
  congr 1
  show ((w >>> (b.toInt64 &&& 63)).toBitVec.signExtend 32).toNat % 2 ^ ν = _
  rw [shBV w _ β hb]
  apply Nat.eq_of_testBit_eq
  intro i
  rw [Nat.testBit_mod_two_pow, Nat.testBit_mod_two_pow, Nat.testBit_div_two_pow]
  by_cases hi : i < ν
  · rw [← BitVec.getLsbD, ← BitVec.getLsbD, BitVec.getLsbD_signExtend, if_pos (by omega), BitVec.getLsbD_sshiftRight, if_pos (by omega)]
    rw [Nat.add_comm β i]
    have e1 : decide (64 ≤ i) = false := decide_eq_false (by omega)
    rw [e1, decide_eq_true (show i < 32 by omega)]
    simp
  · simp [hi]
theorem andW (w M : Int64) (β : Nat) (hM : M.toBitVec.toNat = 2 ^ β) : w &&& M = 0 ↔ w.toBitVec.toNat / 2 ^ β % 2 = 0 := by
  have e : (w &&& M).toBitVec.toNat = w.toBitVec.toNat &&& 2 ^ β := by rw [Int64.toBitVec_and, BitVec.toNat_and, hM]
  have t : w.toBitVec.toNat &&& 2 ^ β = (w.toBitVec.toNat.testBit β).toNat * 2 ^ β := by
    apply Nat.eq_of_testBit_eq
    intro i
    rw [Nat.testBit_and, Nat.testBit_two_pow]
    by_cases z : w.toBitVec.toNat.testBit β = true
    · rw [z]
      by_cases hi : β = i
      · subst hi; rw [z]; simp
      · rw [decide_eq_false hi, show true.toNat * 2 ^ β = 2 ^ β by simp, Nat.testBit_two_pow, decide_eq_false hi]; simp
    · have z : w.toBitVec.toNat.testBit β = false := by simpa using z
      rw [z]
      by_cases hi : β = i
      · subst hi; rw [z]; simp
      · rw [decide_eq_false hi]; simp
  have q : w.toBitVec.toNat.testBit β = decide (w.toBitVec.toNat / 2 ^ β % 2 = 1) := Nat.testBit_eq_decide_div_mod_eq
  have p : 0 < 2 ^ β := Nat.two_pow_pos β
  constructor
  · intro h
    rw [h] at e
    rw [show (0 : Int64).toBitVec.toNat = 0 from rfl, t, q] at e
    by_cases z : w.toBitVec.toNat / 2 ^ β % 2 = 1
    · rw [decide_eq_true z] at e; simp at e; omega
    · omega
  · intro h
    apply Int64.toBitVec_inj.mp
    apply BitVec.eq_of_toNat_eq
    rw [e, t, q, decide_eq_false (by omega)]
    simp
theorem btE (w M : Int64) {b : Int32} (β : Nat) (hM : M.toBitVec.toNat = 2 ^ β) (hb : ((b.toInt64 &&& 63).toBitVec.smod 64).toNat = β) (hβ : β < 64) : fnX5_bits w b 1 = if w &&& M = 0 then 0 else 1 := by
  rw [bitsW w β 1 hb (by decide) (by decide) (by omega)]
  by_cases h : w &&& M = 0
  · rw [if_pos h]; rw [andW w M β hM] at h; rw [show (2 : Nat) ^ 1 = 2 from rfl, h]; rfl
  · rw [if_neg h]; rw [andW w M β hM] at h; rw [show (2 : Nat) ^ 1 = 2 from rfl, show w.toBitVec.toNat / 2 ^ β % 2 = 1 by omega]; rfl
theorem bt1 {w M : Int64} {b : Int32} (β : Nat) (hM : M.toBitVec.toNat = 2 ^ β) (hb : ((b.toInt64 &&& 63).toBitVec.smod 64).toNat = β) (hβ : β < 64) : fnX5_bits w b 1 = 1 ↔ ¬ w &&& M = 0 := by
  rw [btE w M β hM hb hβ]
  by_cases h : w &&& M = 0
  · rw [if_pos h]; exact ⟨fun q => absurd q (by decide), fun q => absurd h q⟩
  · rw [if_neg h]; exact ⟨fun _ => h, fun _ => rfl⟩
theorem bt0 {w M : Int64} {b : Int32} (β : Nat) (hM : M.toBitVec.toNat = 2 ^ β) (hb : ((b.toInt64 &&& 63).toBitVec.smod 64).toNat = β) (hβ : β < 64) : fnX5_bits w b 1 = 0 ↔ w &&& M = 0 := by
  rw [btE w M β hM hb hβ]
  by_cases h : w &&& M = 0
  · rw [if_pos h]; exact ⟨fun _ => h, fun _ => rfl⟩
  · rw [if_neg h]; exact ⟨fun q => absurd q (by decide), fun q => absurd q h⟩
theorem sh0 (w : Int64) : w >>> ((0 : Int32).toInt64 &&& 63) = w := by
  rw [show ((0 : Int32).toInt64 &&& 63) = 0 from by decide]
  exact Int64.shiftRight_zero
theorem b012 (w : Int64) : fnX5_bits w 0 12 = w.toInt32 &&& 4095 := by
  unfold fnX5_bits; rw [sh0, show ((1 : Int32) <<< ((12 : Int32) &&& 31)) - 1 = 4095 from by decide]
theorem b003 (w : Int64) : fnX5_bits w 0 3 = w.toInt32 &&& 7 := by
  unfold fnX5_bits; rw [sh0, show ((1 : Int32) <<< ((3 : Int32) &&& 31)) - 1 = 7 from by decide]
theorem bn12 (w : Int64) (b : Int32) : fnX5_bits w b 12 = (w >>> (b.toInt64 &&& 63)).toInt32 &&& 4095 := by
  unfold fnX5_bits; rw [show ((1 : Int32) <<< ((12 : Int32) &&& 31)) - 1 = 4095 from by decide]
theorem bn3 (w : Int64) (b : Int32) : fnX5_bits w b 3 = (w >>> (b.toInt64 &&& 63)).toInt32 &&& 7 := by
  unfold fnX5_bits; rw [show ((1 : Int32) <<< ((3 : Int32) &&& 31)) - 1 = 7 from by decide]
/-- what a descriptor's two words say -/
def dsc (a b : Int64) : TD := ((if a &&& 34359738368 = 0 then 0 else 1), (if a &&& 17179869184 = 0 then 0 else 1), fnX5_bits a 0 12, fnX5_bits a 12 12, fnX5_bits b 0 3, fnX5_bits b 3 3, fnX5_bits b 6 3, (if b &&& 512 = 0 then 0 else 1), (if b &&& 1024 = 0 then 0 else 1), (if b &&& 2048 = 0 then 0 else 1), fnX5_bits b 12 12)
theorem becE (d : TD) (a b : Int64) : fnX1_become d a b = dsc a b := by
  unfold fnX1_become dsc
  rw [b012, bn12, b003, bn3, bn3, bn12]
theorem z1 {c : Prop} [Decidable c] : ((if c then (0 : Int32) else 1) = 0) ↔ c := by
  by_cases h : c
  · rw [if_pos h]; exact ⟨fun _ => h, fun _ => rfl⟩
  · rw [if_neg h]; exact ⟨fun q => absurd q (by decide), fun q => absurd q h⟩
theorem refB {a b : Int64} {w r way : Int32} (hw : way = 0 ∨ way = 1 ∨ way = 2) : fnX1_refusal (dsc a b) w r way = fnX5_barred a b w r way := by
  unfold fnX1_refusal fnX5_barred dsc
  dsimp only
  refine iteE2 z1 (fun _ => ?_)
  by_cases hb : w ≤ fnX5_bits a 12 12
  · rw [if_pos hb, if_pos hb]
    rcases hw with rfl | rfl | rfl
    · rw [if_pos rfl, show ((9 : Int32) + 0) = 9 from by decide]
      by_cases h : b &&& 512 = 0
      · rw [if_pos (z1.mpr h), if_neg (fun q => (bt1 (M := 512) 9 (by decide) (by decide) (by decide)).mp q h)]
      · rw [if_neg (fun q => h (z1.mp q)), if_pos ((bt1 (M := 512) 9 (by decide) (by decide) (by decide)).mpr h), if_pos rfl]
    · rw [if_neg (show ¬ (1 : Int32) = 0 from by decide), if_pos rfl, show ((9 : Int32) + 1) = 10 from by decide]
      by_cases h : b &&& 1024 = 0
      · rw [if_pos (z1.mpr h), if_neg (fun q => (bt1 (M := 1024) 10 (by decide) (by decide) (by decide)).mp q h)]
      · rw [if_neg (fun q => h (z1.mp q)), if_pos ((bt1 (M := 1024) 10 (by decide) (by decide) (by decide)).mpr h), if_neg (show ¬ (1 : Int32) = 0 from by decide), if_pos rfl]
    · rw [if_neg (show ¬ (2 : Int32) = 0 from by decide), if_neg (show ¬ (2 : Int32) = 1 from by decide), show ((9 : Int32) + 2) = 11 from by decide]
      by_cases h : b &&& 2048 = 0
      · rw [if_pos (z1.mpr h), if_neg (fun q => (bt1 (M := 2048) 11 (by decide) (by decide) (by decide)).mp q h)]
      · rw [if_neg (fun q => h (z1.mp q)), if_pos ((bt1 (M := 2048) 11 (by decide) (by decide) (by decide)).mpr h), if_neg (show ¬ (2 : Int32) = 0 from by decide), if_neg (show ¬ (2 : Int32) = 1 from by decide)]
  · rw [if_neg hb, if_neg hb]
theorem orU (w : Int64) : (w ||| 17179869184) &&& 34359738368 = 0 ↔ w &&& 34359738368 = 0 := by
  rw [show ((w ||| 17179869184) &&& 34359738368 : Int64) = w &&& 34359738368 from ?_]
  apply Int64.toBitVec_inj.mp
  apply BitVec.eq_of_toNat_eq
  rw [Int64.toBitVec_and, Int64.toBitVec_or, BitVec.toNat_and, BitVec.toNat_or, Int64.toBitVec_and, BitVec.toNat_and]
  rw [show (Int64.toBitVec 17179869184).toNat = 17179869184 from by decide, show (Int64.toBitVec 34359738368).toNat = 34359738368 from by decide, Nat.and_or_distrib_right]
  simp
theorem orC (w : Int64) : (w ||| 8589934592) &&& 34359738368 = 0 ↔ w &&& 34359738368 = 0 := by
  rw [show ((w ||| 8589934592) &&& 34359738368 : Int64) = w &&& 34359738368 from ?_]
  apply Int64.toBitVec_inj.mp
  apply BitVec.eq_of_toNat_eq
  rw [Int64.toBitVec_and, Int64.toBitVec_or, BitVec.toNat_and, BitVec.toNat_or, Int64.toBitVec_and, BitVec.toNat_and]
  rw [show (Int64.toBitVec 8589934592).toNat = 8589934592 from by decide, show (Int64.toBitVec 34359738368).toNat = 34359738368 from by decide, Nat.and_or_distrib_right]
  simp
/-- the place that a page's word and a word's number give -/
theorem pgE {x : Int64} (h : i36 x) : (x - x / 64 * 64).toInt32 * 64 = 64 * fnX5_bits x 0 6 := by
  obtain ⟨a, ha, rfl⟩ := i36N h
  have e1 : lN a - lN a / 64 * 64 = lN (a % 64) := pk_lRem (b := 64) (by omega) (by decide) (by decide)
  rw [e1, lN_i, bitsW (lN a) 0 6 (by decide) (by decide) (by decide) (by decide), show (lN a).toBitVec.toNat = a by rw [lNbv, BitVec.toNat_ofNat]; exact Nat.mod_eq_of_lt (by omega), show (2 : Nat) ^ 0 = 1 from rfl, Nat.div_one, show (2 : Nat) ^ 6 = 64 from rfl, show (64 : Int32) = nI 64 from by decide, pk_mul, pk_mul, Nat.mul_comm]
theorem pgU (x : Int64) : fnX5_bits (x ||| 17179869184) 0 6 = fnX5_bits x 0 6 := by
  rw [bitsW _ 0 6 (by decide) (by decide) (by decide) (by decide), bitsW x 0 6 (by decide) (by decide) (by decide) (by decide), show (2 : Nat) ^ 0 = 1 from rfl, Nat.div_one, Nat.div_one]
  congr 1
  rw [Int64.toBitVec_or, BitVec.toNat_or, show (Int64.toBitVec 17179869184).toNat = 17179869184 from by decide]
  rw [Nat.or_mod_two_pow]
  simp
