set_option maxRecDepth 100000 in
set_option maxHeartbeats 4000000 in
theorem case0 {p : Program} {l : Launch} {e : Env} {s : State} {m : MethodId} {below : List Frame} {meth : Method} {c : Code} {b L : Nat} {xs : Nat → Int32} {D : va_G} {cI cJ cP : ClassId} {Q : State → Prop} (hx : p.tables.exec = Jvm.exec) (hb : c.code = code) (hml : c.maxLocals = 8) (hown : s.vm.findClass RL = some m.cls) (hG : ∀ w ∈ gG, w.before #[Value.ref b] s = true) (hT : l.stackTraces = false) (hK : va_K D vwCl (tz cI cJ cP) s) (hN : NST s) (hZ : ZX (fun q => s.heap.size ≤ q) s) (hNc : va_Nc eA eI s) (hX : va_X b L xs s s.heap) (hbl : b < s.heap.size) (hL : L ≤ 2560) {cells slots : Nat} (hf : cells + 1 ≤ 1065 ∧ slots + 6 ≤ 16602) {H : Heap} {locs : List Loc} {ls : Array Slot} {ad ad2 : Nat → Nat} {o : Nat} {u : TR} {v : TM} {f : Nat → Int64} {th i : Int32} (hi : 0 ≤ i.toInt ∧ i.toInt + 4 < (L : Int)) (hI : iR u) (hM : iM v) (hR : Rl th u v) (hP : va_P D vwCl (WL cI cJ cP ad o ad2 u f v) H) (hD : va_D (fun q => s.heap.size ≤ q) (WL cI cJ cP ad o ad2 u f v)) (hS : va_S (fun q => s.heap.size ≤ q) s.heap H locs) (hl : lv_has ls 8 [(0, .ref b), (1, .ref (ad 0)), (2, .ref (ad2 0)), (3, .ref o), (4, .int i)]) (kk : ∀ (u' : TR) (v' : TM) (f' : Nat → Int64) (th' : Int32) (H' : Heap) (locs' : List Loc) (ls' : Array Slot), iR u' → iM v' → Rl th' u' v' → va_P D vwCl (WL cI cJ cP ad o ad2 u' f' v') H' → va_D (fun q => s.heap.size ≤ q) (WL cI cJ cP ad o ad2 u' f' v') → va_S (fun q => s.heap.size ≤ q) s.heap H' locs' → lv_has ls' 8 [(0, .ref b), (1, .ref (ad 0)), (2, .ref (ad2 0)), (3, .ref o), (4, .int i)] → W p l e room_1 s m #[Value.ref b] below meth c H' locs' (cells + 1) (slots + 6) Q (F0 m 637 ls' [])) : W p l e room_1 s m #[Value.ref b] below meth c H locs cells slots Q (F0 m 96 ls []) := by
  refine lv_aload_n hx hb dW_96 rfl (lv_at hl 1 rfl) ?_
  refine lv_aload_n hx hb dW_97 rfl (lv_at hl 0 rfl) ?_
  refine lv_iload hx hb dW_98 (lv_at hl 4 rfl) ?_
  refine lv_iconst (v := 1) hx hb dW_100 (by decide) ?_
  refine lv_iadd hx hb dW_101 ?_
  refine va_sld hx hb hX hbl (Nat.not_le.mpr hbl) hS (sc hL hi 1 (by decide)) dW_102 ?_
  refine lv_aload_n hx hb dW_103 rfl (lv_at hl 0 rfl) ?_
  refine lv_iload hx hb dW_104 (lv_at hl 4 rfl) ?_
  refine lv_iconst (v := 2) hx hb dW_106 (by decide) ?_
  refine lv_iadd hx hb dW_107 ?_
  refine va_sld hx hb hX hbl (Nat.not_le.mpr hbl) hS (sc hL hi 2 (by decide)) dW_108 ?_
  refine lv_i2l hx hb dW_109 rfl ?_
  refine lv_bipush (v := 32) hx hb dW_110 (by decide) ?_
  refine lv_lshl hx hb dW_112 rfl ?_
  refine lv_aload_n hx hb dW_113 rfl (lv_at hl 0 rfl) ?_
  refine lv_iload hx hb dW_114 (lv_at hl 4 rfl) ?_
  refine lv_iconst (v := 3) hx hb dW_116 (by decide) ?_
  refine lv_iadd hx hb dW_117 ?_
  refine va_sld hx hb hX hbl (Nat.not_le.mpr hbl) hS (sc hL hi 3 (by decide)) dW_118 ?_
  refine lv_i2l hx hb dW_119 rfl ?_
  refine lv_ldc2 (v := 4294967295) hx hb hown (hG _ kq0) dW_120 ?_
  refine lv_land hx hb dW_123 ?_
  refine lv_lor hx hb dW_124 ?_
  have cont : ∀ (r : Int32) (u' : TR) (f' : Nat → Int64) (H1 : Heap) (locs1 : List Loc), iR u' → Rl r u' (fnX5_poke v ((xs ((i + (1 : Int32))).toNatClampNeg)) (((((xs ((i + (2 : Int32))).toNatClampNeg)).toInt64 <<< (((32 : Int32)).toInt64 &&& 63)) ||| (((xs ((i + (3 : Int32))).toNatClampNeg)).toInt64 &&& (4294967295 : Int64))))) → va_P D vwCl (WL cI cJ cP ad o ad2 u' f' v) H1 → va_D (fun q => s.heap.size ≤ q) (WL cI cJ cP ad o ad2 u' f' v) → va_S (fun q => s.heap.size ≤ q) s.heap H1 locs1 → W p l e room_1 s m #[Value.ref b] below meth c H1 locs1 (cells + 1) (slots + 6) Q (F0 m 128 ls [.int r]) := by
    intro r u' f' H locs hI' hR' hP hD hS
    refine lv_istore (lv' := [(5, .int r), (0, .ref b), (1, .ref (ad 0)), (2, .ref (ad2 0)), (3, .ref o), (4, .int i)]) hx hb dW_128 hl (by decide) rfl (fun ls hl => ?_)
    refine lv_aload_n hx hb dW_130 rfl (lv_at hl 3 rfl) ?_
    refine lv_aload_n hx hb dW_131 rfl (lv_at hl 1 rfl) ?_
    refine lv_iload hx hb dW_132 (lv_at hl 5 rfl) ?_
    refine lv_iconst (v := 1) hx hb dW_134 (by decide) ?_
    refine lv_iadd hx hb dW_135 ?_
    refine va_sld hx hb hX hbl (Nat.not_le.mpr hbl) hS (sc hL hi 1 (by decide)) dW_136 ?_
    refine lv_aload_n hx hb dW_137 rfl (lv_at hl 1 rfl) ?_
    refine lv_iload hx hb dW_138 (lv_at hl 5 rfl) ?_
    refine lv_iconst (v := 2) hx hb dW_140 (by decide) ?_
    refine lv_iadd hx hb dW_141 ?_
    refine va_sld hx hb hX hbl (Nat.not_le.mpr hbl) hS (sc hL hi 2 (by decide)) dW_142 ?_
    refine lv_i2l hx hb dW_143 rfl ?_
    refine lv_bipush (v := 32) hx hb dW_144 (by decide) ?_
    refine lv_lshl hx hb dW_146 rfl ?_
    refine lv_aload_n hx hb dW_147 rfl (lv_at hl 1 rfl) ?_
    refine lv_iload hx hb dW_148 (lv_at hl 5 rfl) ?_
    refine lv_iconst (v := 3) hx hb dW_150 (by decide) ?_
    refine lv_iadd hx hb dW_151 ?_
    refine va_sld hx hb hX hbl (Nat.not_le.mpr hbl) hS (sc hL hi 3 (by decide)) dW_152 ?_
    refine lv_i2l hx hb dW_153 rfl ?_
    refine lv_ldc2 (v := 4294967295) hx hb hown (hG _ kq0) dW_154 ?_
    refine lv_land hx hb dW_157 ?_
    refine lv_lor hx hb dW_158 ?_
    refine kQv (ex := wRO cI cJ cP ad o u' f') (rest := []) hx hb hml hown hG hl (okX5_poke l D cI cJ cP ad2 H.size v ((xs ((i + (1 : Int32))).toNatClampNeg)) (((((xs ((i + (2 : Int32))).toNatClampNeg)).toInt64 <<< (((32 : Int32)).toInt64 &&& 63)) ||| (((xs ((i + (3 : Int32))).toNatClampNeg)).toInt64 &&& (4294967295 : Int64)))) hM) (cV 2 hG kq1 kq2 kq3 kq4 kq5 hqX5_poke ⟨by decide, by decide⟩) 0 5 rfl rfl hK hP hD hS (fun _ h => h) hN rfl (fun _ => rfl) rfl rfl (Nat.le_of_ble_eq_true rfl) dW_159 ⟨hf.1, hf.2⟩ (fun v1 q1 H locs hP hD hS => ?_)
    obtain rfl : v1 = fnX5_poke v ((xs ((i + (1 : Int32))).toNatClampNeg)) (((((xs ((i + (2 : Int32))).toNatClampNeg)).toInt64 <<< (((32 : Int32)).toInt64 &&& 63)) ||| (((xs ((i + (3 : Int32))).toNatClampNeg)).toInt64 &&& (4294967295 : Int64)))) := q1
    have hM1 : iM (fnX5_poke v ((xs ((i + (1 : Int32))).toNatClampNeg)) (((((xs ((i + (2 : Int32))).toNatClampNeg)).toInt64 <<< (((32 : Int32)).toInt64 &&& 63)) ||| (((xs ((i + (3 : Int32))).toNatClampNeg)).toInt64 &&& (4294967295 : Int64))))) := ivX5_poke v ((xs ((i + (1 : Int32))).toNatClampNeg)) (((((xs ((i + (2 : Int32))).toNatClampNeg)).toInt64 <<< (((32 : Int32)).toInt64 &&& 63)) ||| (((xs ((i + (3 : Int32))).toNatClampNeg)).toInt64 &&& (4294967295 : Int64)))) hM
    refine lv_aload_n hx hb dW_162 rfl (lv_at hl 3 rfl) ?_
    refine kQi (ex := wRO cI cJ cP ad o u' f') (rest := []) hx hb hml hown hG hl (okX5_thrown l D cI cJ cP ad2 H.size (fnX5_poke v ((xs ((i + (1 : Int32))).toNatClampNeg)) (((((xs ((i + (2 : Int32))).toNatClampNeg)).toInt64 <<< (((32 : Int32)).toInt64 &&& 63)) ||| (((xs ((i + (3 : Int32))).toNatClampNeg)).toInt64 &&& (4294967295 : Int64))))) hM1) (cV 0 hG kq6 kq7 kq8 kq9 kq5 hqX5_thrown ⟨by decide, by decide⟩) 0 5 rfl rfl hK hP hD hS (fun _ h => h) hN rfl (fun _ => rfl) rfl rfl (Nat.le_of_ble_eq_true rfl) dW_163 ⟨hf.1, hf.2⟩ (fun t1 z1 q1 H locs hP hD hS => ?_)
    have e1 : t1 = r := q1.trans (RlT hR')
    refine lv_iload hx hb dW_166 (lv_at hl 0 rfl) ?_
    refine lv_icmp_eq (tgt := 173) hx hb dW_168 (by decide) (fun _ => ?_) (fun h9 => absurd e1 h9)
    refine lv_goto (tgt := 637) hx hb dW_173 (by decide) ?_
    exact kk _ _ _ _ _ _ _ hI' hM1 hR' hP hD hS (lv_sub hl [1, 2, 3, 4, 5] rfl)
  by_cases ho : ((xs ((i + (1 : Int32))).toNatClampNeg)) < 0 ∨ ¬ ((xs ((i + (1 : Int32))).toNatClampNeg)) ≤ 4095
  ·
    refine kHi (rest := []) hx hb hml hown hG hl (xL_poke l hT D cI cJ cP ad H.size u ((xs ((i + (1 : Int32))).toNatClampNeg)) (((((xs ((i + (2 : Int32))).toNatClampNeg)).toInt64 <<< (((32 : Int32)).toInt64 &&& 63)) ||| (((xs ((i + (3 : Int32))).toNatClampNeg)).toInt64 &&& (4294967295 : Int64)))) ho) (cSW 3 hG kq10 kq11 kq12 kq13 hqL_poke ⟨by decide, by decide⟩) hK hP hD hS (fun _ h => h) hN hZ hNc (WL1 u f v) (fun u9 => (WL1 _ f v).symm) rfl rfl (Nat.le_of_ble_eq_true rfl) dW_125 ⟨hf.1, hf.2⟩ (fun r1 z1 q1 H locs hP hD hS => ?_)
    obtain rfl : r1 = 1 := q1
    exact cont _ u f H locs hI (pokeX hR ho) hP hD hS
  ·
    have h0 : ¬ ((xs ((i + (1 : Int32))).toNatClampNeg)) < 0 := fun h => ho (Or.inl h)
    have h1 : ((xs ((i + (1 : Int32))).toNatClampNeg)) ≤ 4095 := Decidable.not_not.mp fun h => ho (Or.inr h)
    have g1 := inr (n := 4095) (by decide) h0 h1
    refine kHi (rest := []) hx hb hml hown hG hl (okL_poke l D cI cJ cP ad H.size u ((xs ((i + (1 : Int32))).toNatClampNeg)) (((((xs ((i + (2 : Int32))).toNatClampNeg)).toInt64 <<< (((32 : Int32)).toInt64 &&& 63)) ||| (((xs ((i + (3 : Int32))).toNatClampNeg)).toInt64 &&& (4294967295 : Int64)))) hI g1) (cSW 3 hG kq10 kq11 kq12 kq13 hqL_poke ⟨by decide, by decide⟩) hK hP hD hS (fun _ h => h) hN hZ hNc (WL1 u f v) (fun u9 => (WL1 _ f v).symm) rfl rfl (Nat.le_of_ble_eq_true rfl) dW_125 ⟨Nat.le_trans (Nat.le_succ _) hf.1, Nat.le_trans (Nat.le_add_right _ 6) hf.2⟩ (fun r1 z1 q1 H locs hP hD hS => ?_)
    obtain ⟨e1, e2⟩ := pq q1
    subst e1 e2
    refine widW (Nat.le_succ _) (Nat.le_add_right _ 6) ?_
    exact cont 0 (fnX4_poke u ((xs ((i + (1 : Int32))).toNatClampNeg)) (((((xs ((i + (2 : Int32))).toNatClampNeg)).toInt64 <<< (((32 : Int32)).toInt64 &&& 63)) ||| (((xs ((i + (3 : Int32))).toNatClampNeg)).toInt64 &&& (4294967295 : Int64))))) f H locs (ivX4_poke u ((xs ((i + (1 : Int32))).toNatClampNeg)) (((((xs ((i + (2 : Int32))).toNatClampNeg)).toInt64 <<< (((32 : Int32)).toInt64 &&& 63)) ||| (((xs ((i + (3 : Int32))).toNatClampNeg)).toInt64 &&& (4294967295 : Int64)))) hI g1) (pokeR hR h0 h1) hP hD hS
set_option maxRecDepth 100000 in
set_option maxHeartbeats 4000000 in
theorem case1 {p : Program} {l : Launch} {e : Env} {s : State} {m : MethodId} {below : List Frame} {meth : Method} {c : Code} {b L : Nat} {xs : Nat → Int32} {D : va_G} {cI cJ cP : ClassId} {Q : State → Prop} (hx : p.tables.exec = Jvm.exec) (hb : c.code = code) (hml : c.maxLocals = 8) (hown : s.vm.findClass RL = some m.cls) (hG : ∀ w ∈ gG, w.before #[Value.ref b] s = true) (hT : l.stackTraces = false) (hK : va_K D vwCl (tz cI cJ cP) s) (hN : NST s) (hZ : ZX (fun q => s.heap.size ≤ q) s) (hNc : va_Nc eA eI s) (hX : va_X b L xs s s.heap) (hbl : b < s.heap.size) (hL : L ≤ 2560) {cells slots : Nat} (hf : cells + 1 ≤ 1065 ∧ slots + 6 ≤ 16602) {H : Heap} {locs : List Loc} {ls : Array Slot} {ad ad2 : Nat → Nat} {o : Nat} {u : TR} {v : TM} {f : Nat → Int64} {th i : Int32} (hi : 0 ≤ i.toInt ∧ i.toInt + 4 < (L : Int)) (hI : iR u) (hM : iM v) (hR : Rl th u v) (hP : va_P D vwCl (WL cI cJ cP ad o ad2 u f v) H) (hD : va_D (fun q => s.heap.size ≤ q) (WL cI cJ cP ad o ad2 u f v)) (hS : va_S (fun q => s.heap.size ≤ q) s.heap H locs) (hl : lv_has ls 8 [(0, .ref b), (1, .ref (ad 0)), (2, .ref (ad2 0)), (3, .ref o), (4, .int i)]) (kk : ∀ (u' : TR) (v' : TM) (f' : Nat → Int64) (th' : Int32) (H' : Heap) (locs' : List Loc) (ls' : Array Slot), iR u' → iM v' → Rl th' u' v' → va_P D vwCl (WL cI cJ cP ad o ad2 u' f' v') H' → va_D (fun q => s.heap.size ≤ q) (WL cI cJ cP ad o ad2 u' f' v') → va_S (fun q => s.heap.size ≤ q) s.heap H' locs' → lv_has ls' 8 [(0, .ref b), (1, .ref (ad 0)), (2, .ref (ad2 0)), (3, .ref o), (4, .int i)] → W p l e room_1 s m #[Value.ref b] below meth c H' locs' (cells + 1) (slots + 6) Q (F0 m 637 ls' [])) : W p l e room_1 s m #[Value.ref b] below meth c H locs cells slots Q (F0 m 176 ls []) := by
  refine lv_aload_n hx hb dW_176 rfl (lv_at hl 1 rfl) ?_
  refine lv_aload_n hx hb dW_177 rfl (lv_at hl 0 rfl) ?_
  refine lv_iload hx hb dW_178 (lv_at hl 4 rfl) ?_
  refine lv_iconst (v := 1) hx hb dW_180 (by decide) ?_
  refine lv_iadd hx hb dW_181 ?_
  refine va_sld hx hb hX hbl (Nat.not_le.mpr hbl) hS (sc hL hi 1 (by decide)) dW_182 ?_
  refine lv_aload_n hx hb dW_183 rfl (lv_at hl 3 rfl) ?_
  have cont : ∀ (r : Int32) (u' : TR) (f' : Nat → Int64) (H1 : Heap) (locs1 : List Loc), iR u' → Rl r u' ((fnX5_peek v ((xs ((i + (1 : Int32))).toNatClampNeg))).2) → (r = 0 → f' 0 = (fnX5_peek v ((xs ((i + (1 : Int32))).toNatClampNeg))).1) → va_P D vwCl (WL cI cJ cP ad o ad2 u' f' v) H1 → va_D (fun q => s.heap.size ≤ q) (WL cI cJ cP ad o ad2 u' f' v) → va_S (fun q => s.heap.size ≤ q) s.heap H1 locs1 → W p l e room_1 s m #[Value.ref b] below meth c H1 locs1 (cells + 1) (slots + 6) Q (F0 m 187 ls [.int r]) := by
    intro r u' f' H locs hI' hR' ha hP hD hS
    refine lv_istore (lv' := [(5, .int r), (0, .ref b), (1, .ref (ad 0)), (2, .ref (ad2 0)), (3, .ref o), (4, .int i)]) hx hb dW_187 hl (by decide) rfl (fun ls hl => ?_)
    refine lv_aload_n hx hb dW_189 rfl (lv_at hl 3 rfl) ?_
    refine lv_aload_n hx hb dW_190 rfl (lv_at hl 1 rfl) ?_
    refine lv_iload hx hb dW_191 (lv_at hl 5 rfl) ?_
    refine lv_iconst (v := 1) hx hb dW_193 (by decide) ?_
    refine lv_iadd hx hb dW_194 ?_
    refine va_sld hx hb hX hbl (Nat.not_le.mpr hbl) hS (sc hL hi 1 (by decide)) dW_195 ?_
    refine kQl (ex := wRO cI cJ cP ad o u' f') (rest := []) hx hb hml hown hG hl (okX5_peek l D cI cJ cP ad2 H.size v ((xs ((i + (1 : Int32))).toNatClampNeg)) hM) (cV 1 hG kq14 kq15 kq16 kq17 kq5 hqX5_peek ⟨by decide, by decide⟩) 0 5 rfl rfl hK hP hD hS (fun _ h => h) hN rfl (fun _ => rfl) rfl rfl (Nat.le_of_ble_eq_true rfl) dW_196 ⟨hf.1, hf.2⟩ (fun b1 v1 q1 H locs hP hD hS => ?_)
    obtain ⟨e1, e2⟩ := pq q1
    subst e1 e2
    have hM1 : iM ((fnX5_peek v ((xs ((i + (1 : Int32))).toNatClampNeg))).2) := ivX5_peek v ((xs ((i + (1 : Int32))).toNatClampNeg)) hM
    refine lv_lstore (lv' := [(6, .long (fnX5_peek v ((xs ((i + (1 : Int32))).toNatClampNeg))).1), (5, .int r), (0, .ref b), (1, .ref (ad 0)), (2, .ref (ad2 0)), (3, .ref o), (4, .int i)]) hx hb dW_199 hl (by decide) rfl (fun ls hl => ?_)
    refine lv_aload_n hx hb dW_201 rfl (lv_at hl 4 rfl) ?_
    refine kQi (ex := wRO cI cJ cP ad o u' f') (rest := []) hx hb hml hown hG hl (okX5_thrown l D cI cJ cP ad2 H.size ((fnX5_peek v ((xs ((i + (1 : Int32))).toNatClampNeg))).2) hM1) (cV 0 hG kq6 kq7 kq8 kq9 kq5 hqX5_thrown ⟨by decide, by decide⟩) 0 5 rfl rfl hK hP hD hS (fun _ h => h) hN rfl (fun _ => rfl) rfl rfl (Nat.le_of_ble_eq_true rfl) dW_202 ⟨hf.1, hf.2⟩ (fun t1 z1 q1 H locs hP hD hS => ?_)
    have e1 : t1 = r := q1.trans (RlT hR')
    refine lv_iload hx hb dW_205 (lv_at hl 1 rfl) ?_
    refine lv_icmp_eq (tgt := 212) hx hb dW_207 (by decide) (fun _ => ?_) (fun h9 => absurd e1 h9)
    refine lv_iload hx hb dW_212 (lv_at hl 1 rfl) ?_
    refine lv_if_ne (tgt := 228) hx hb dW_214 (by decide) (fun h9 => ?_) (fun h9 => ?_)
    ·
      refine lv_goto (tgt := 637) hx hb dW_228 (by decide) ?_
      exact kk _ _ _ _ _ _ _ hI' hM1 hR' hP hD hS (lv_sub hl [2, 3, 4, 5, 6] rfl)
    ·
      refine lv_aload_n hx hb dW_217 rfl (lv_at hl 5 rfl) ?_
      refine lv_iconst (v := 0) hx hb dW_218 (by decide) ?_
      refine gl (D := D) (j := 0) (f := f') hx hb hK hP 21 1 (WLo _ _ _) rfl (inL (by decide)) (by decide) dW_219 ?_
      refine lv_lload hx hb dW_220 (lv_at hl 0 rfl) ?_
      refine lq_eq (tgt := 228) hx hb dW_222 dW_223 (by decide) (fun _ => ?_) (fun h8 => absurd (ha h9) h8)
      refine lv_goto (tgt := 637) hx hb dW_228 (by decide) ?_
      exact kk _ _ _ _ _ _ _ hI' hM1 hR' hP hD hS (lv_sub hl [2, 3, 4, 5, 6] rfl)
  by_cases ho : ((xs ((i + (1 : Int32))).toNatClampNeg)) < 0 ∨ ¬ ((xs ((i + (1 : Int32))).toNatClampNeg)) ≤ 4095
  ·
    refine kHi (rest := []) hx hb hml hown hG hl (xL_peek l hT D cI cJ cP ad o H.size u f ((xs ((i + (1 : Int32))).toNatClampNeg)) ho) (cSW 3 hG kq18 kq19 kq20 kq13 hqL_peek ⟨by decide, by decide⟩) hK hP hD hS (fun _ h => h) hN hZ hNc rfl (fun _ => rfl) rfl rfl (Nat.le_of_ble_eq_true rfl) dW_184 ⟨hf.1, hf.2⟩ (fun r1 z1 q1 H locs hP hD hS => ?_)
    obtain rfl : r1 = 1 := q1
    exact cont _ u f H locs hI (peekX hR ho) (fun h8 => absurd h8 (by decide)) hP hD hS
  ·
    have h0 : ¬ ((xs ((i + (1 : Int32))).toNatClampNeg)) < 0 := fun h => ho (Or.inl h)
    have h1 : ((xs ((i + (1 : Int32))).toNatClampNeg)) ≤ 4095 := Decidable.not_not.mp fun h => ho (Or.inr h)
    have g1 := inr (n := 4095) (by decide) h0 h1
    refine kHi (rest := []) hx hb hml hown hG hl (okL_peek l D cI cJ cP ad o H.size u f ((xs ((i + (1 : Int32))).toNatClampNeg)) hI g1) (cSW 3 hG kq18 kq19 kq20 kq13 hqL_peek ⟨by decide, by decide⟩) hK hP hD hS (fun _ h => h) hN hZ hNc rfl (fun _ => rfl) rfl rfl (Nat.le_of_ble_eq_true rfl) dW_184 ⟨Nat.le_trans (Nat.le_succ _) hf.1, Nat.le_trans (Nat.le_add_right _ 6) hf.2⟩ (fun r1 z1 q1 H locs hP hD hS => ?_)
    obtain ⟨e1, e2⟩ := pq q1
    subst e1 e2
    refine widW (Nat.le_succ _) (Nat.le_add_right _ 6) ?_
    have r2 := peekR hR h0 h1
    exact cont 0 (u) (vp_updL f 0 (fnX4_peek u ((xs ((i + (1 : Int32))).toNatClampNeg)))) H locs hI r2.2 (fun _ => by rw [r2.1]; exact upd0 f _) hP hD hS
set_option maxRecDepth 100000 in
set_option maxHeartbeats 4000000 in
theorem case2 {p : Program} {l : Launch} {e : Env} {s : State} {m : MethodId} {below : List Frame} {meth : Method} {c : Code} {b L : Nat} {xs : Nat → Int32} {D : va_G} {cI cJ cP : ClassId} {Q : State → Prop} (hx : p.tables.exec = Jvm.exec) (hb : c.code = code) (hml : c.maxLocals = 8) (hown : s.vm.findClass RL = some m.cls) (hG : ∀ w ∈ gG, w.before #[Value.ref b] s = true) (hT : l.stackTraces = false) (hK : va_K D vwCl (tz cI cJ cP) s) (hN : NST s) (hZ : ZX (fun q => s.heap.size ≤ q) s) (hNc : va_Nc eA eI s) (hX : va_X b L xs s s.heap) (hbl : b < s.heap.size) (hL : L ≤ 2560) {cells slots : Nat} (hf : cells + 1 ≤ 1065 ∧ slots + 6 ≤ 16602) {H : Heap} {locs : List Loc} {ls : Array Slot} {ad ad2 : Nat → Nat} {o : Nat} {u : TR} {v : TM} {f : Nat → Int64} {th i : Int32} (hi : 0 ≤ i.toInt ∧ i.toInt + 4 < (L : Int)) (hI : iR u) (hM : iM v) (hR : Rl th u v) (hP : va_P D vwCl (WL cI cJ cP ad o ad2 u f v) H) (hD : va_D (fun q => s.heap.size ≤ q) (WL cI cJ cP ad o ad2 u f v)) (hS : va_S (fun q => s.heap.size ≤ q) s.heap H locs) (hl : lv_has ls 8 [(0, .ref b), (1, .ref (ad 0)), (2, .ref (ad2 0)), (3, .ref o), (4, .int i)]) (kk : ∀ (u' : TR) (v' : TM) (f' : Nat → Int64) (th' : Int32) (H' : Heap) (locs' : List Loc) (ls' : Array Slot), iR u' → iM v' → Rl th' u' v' → va_P D vwCl (WL cI cJ cP ad o ad2 u' f' v') H' → va_D (fun q => s.heap.size ≤ q) (WL cI cJ cP ad o ad2 u' f' v') → va_S (fun q => s.heap.size ≤ q) s.heap H' locs' → lv_has ls' 8 [(0, .ref b), (1, .ref (ad 0)), (2, .ref (ad2 0)), (3, .ref o), (4, .int i)] → W p l e room_1 s m #[Value.ref b] below meth c H' locs' (cells + 1) (slots + 6) Q (F0 m 637 ls' [])) : W p l e room_1 s m #[Value.ref b] below meth c H locs cells slots Q (F0 m 231 ls []) := by
  refine lv_aload_n hx hb dW_231 rfl (lv_at hl 1 rfl) ?_
  refine lv_aload_n hx hb dW_232 rfl (lv_at hl 0 rfl) ?_
  refine lv_iload hx hb dW_233 (lv_at hl 4 rfl) ?_
  refine lv_iconst (v := 1) hx hb dW_235 (by decide) ?_
  refine lv_iadd hx hb dW_236 ?_
  refine va_sld hx hb hX hbl (Nat.not_le.mpr hbl) hS (sc hL hi 1 (by decide)) dW_237 ?_
  refine lv_aload_n hx hb dW_238 rfl (lv_at hl 0 rfl) ?_
  refine lv_iload hx hb dW_239 (lv_at hl 4 rfl) ?_
  refine lv_iconst (v := 2) hx hb dW_241 (by decide) ?_
  refine lv_iadd hx hb dW_242 ?_
  refine va_sld hx hb hX hbl (Nat.not_le.mpr hbl) hS (sc hL hi 2 (by decide)) dW_243 ?_
  refine lv_i2l hx hb dW_244 rfl ?_
  refine lv_bipush (v := 32) hx hb dW_245 (by decide) ?_
  refine lv_lshl hx hb dW_247 rfl ?_
  refine lv_aload_n hx hb dW_248 rfl (lv_at hl 0 rfl) ?_
  refine lv_iload hx hb dW_249 (lv_at hl 4 rfl) ?_
  refine lv_iconst (v := 3) hx hb dW_251 (by decide) ?_
  refine lv_iadd hx hb dW_252 ?_
  refine va_sld hx hb hX hbl (Nat.not_le.mpr hbl) hS (sc hL hi 3 (by decide)) dW_253 ?_
  refine lv_i2l hx hb dW_254 rfl ?_
  refine lv_ldc2 (v := 4294967295) hx hb hown (hG _ kq0) dW_255 ?_
  refine lv_land hx hb dW_258 ?_
  refine lv_lor hx hb dW_259 ?_
  have cont : ∀ (r : Int32) (u' : TR) (f' : Nat → Int64) (H1 : Heap) (locs1 : List Loc), iR u' → Rl r u' (fnX5_set v ((xs ((i + (1 : Int32))).toNatClampNeg)) (((((xs ((i + (2 : Int32))).toNatClampNeg)).toInt64 <<< (((32 : Int32)).toInt64 &&& 63)) ||| (((xs ((i + (3 : Int32))).toNatClampNeg)).toInt64 &&& (4294967295 : Int64))))) → va_P D vwCl (WL cI cJ cP ad o ad2 u' f' v) H1 → va_D (fun q => s.heap.size ≤ q) (WL cI cJ cP ad o ad2 u' f' v) → va_S (fun q => s.heap.size ≤ q) s.heap H1 locs1 → W p l e room_1 s m #[Value.ref b] below meth c H1 locs1 (cells + 1) (slots + 6) Q (F0 m 263 ls [.int r]) := by
    intro r u' f' H locs hI' hR' hP hD hS
    refine lv_istore (lv' := [(5, .int r), (0, .ref b), (1, .ref (ad 0)), (2, .ref (ad2 0)), (3, .ref o), (4, .int i)]) hx hb dW_263 hl (by decide) rfl (fun ls hl => ?_)
    refine lv_aload_n hx hb dW_265 rfl (lv_at hl 3 rfl) ?_
    refine lv_aload_n hx hb dW_266 rfl (lv_at hl 1 rfl) ?_
    refine lv_iload hx hb dW_267 (lv_at hl 5 rfl) ?_
    refine lv_iconst (v := 1) hx hb dW_269 (by decide) ?_
    refine lv_iadd hx hb dW_270 ?_
    refine va_sld hx hb hX hbl (Nat.not_le.mpr hbl) hS (sc hL hi 1 (by decide)) dW_271 ?_
    refine lv_aload_n hx hb dW_272 rfl (lv_at hl 1 rfl) ?_
    refine lv_iload hx hb dW_273 (lv_at hl 5 rfl) ?_
    refine lv_iconst (v := 2) hx hb dW_275 (by decide) ?_
    refine lv_iadd hx hb dW_276 ?_
    refine va_sld hx hb hX hbl (Nat.not_le.mpr hbl) hS (sc hL hi 2 (by decide)) dW_277 ?_
    refine lv_i2l hx hb dW_278 rfl ?_
    refine lv_bipush (v := 32) hx hb dW_279 (by decide) ?_
    refine lv_lshl hx hb dW_281 rfl ?_
    refine lv_aload_n hx hb dW_282 rfl (lv_at hl 1 rfl) ?_
    refine lv_iload hx hb dW_283 (lv_at hl 5 rfl) ?_
    refine lv_iconst (v := 3) hx hb dW_285 (by decide) ?_
    refine lv_iadd hx hb dW_286 ?_
    refine va_sld hx hb hX hbl (Nat.not_le.mpr hbl) hS (sc hL hi 3 (by decide)) dW_287 ?_
    refine lv_i2l hx hb dW_288 rfl ?_
    refine lv_ldc2 (v := 4294967295) hx hb hown (hG _ kq0) dW_289 ?_
    refine lv_land hx hb dW_292 ?_
    refine lv_lor hx hb dW_293 ?_
    refine kQv (ex := wRO cI cJ cP ad o u' f') (rest := []) hx hb hml hown hG hl (okX5_set l D cI cJ cP ad2 H.size v ((xs ((i + (1 : Int32))).toNatClampNeg)) (((((xs ((i + (2 : Int32))).toNatClampNeg)).toInt64 <<< (((32 : Int32)).toInt64 &&& 63)) ||| (((xs ((i + (3 : Int32))).toNatClampNeg)).toInt64 &&& (4294967295 : Int64)))) hM) (cV 2 hG kq21 kq22 kq23 kq24 kq5 hqX5_set ⟨by decide, by decide⟩) 0 5 rfl rfl hK hP hD hS (fun _ h => h) hN rfl (fun _ => rfl) rfl rfl (Nat.le_of_ble_eq_true rfl) dW_294 ⟨hf.1, hf.2⟩ (fun v1 q1 H locs hP hD hS => ?_)
    obtain rfl : v1 = fnX5_set v ((xs ((i + (1 : Int32))).toNatClampNeg)) (((((xs ((i + (2 : Int32))).toNatClampNeg)).toInt64 <<< (((32 : Int32)).toInt64 &&& 63)) ||| (((xs ((i + (3 : Int32))).toNatClampNeg)).toInt64 &&& (4294967295 : Int64)))) := q1
    have hM1 : iM (fnX5_set v ((xs ((i + (1 : Int32))).toNatClampNeg)) (((((xs ((i + (2 : Int32))).toNatClampNeg)).toInt64 <<< (((32 : Int32)).toInt64 &&& 63)) ||| (((xs ((i + (3 : Int32))).toNatClampNeg)).toInt64 &&& (4294967295 : Int64))))) := ivX5_set v ((xs ((i + (1 : Int32))).toNatClampNeg)) (((((xs ((i + (2 : Int32))).toNatClampNeg)).toInt64 <<< (((32 : Int32)).toInt64 &&& 63)) ||| (((xs ((i + (3 : Int32))).toNatClampNeg)).toInt64 &&& (4294967295 : Int64)))) hM
    refine lv_aload_n hx hb dW_297 rfl (lv_at hl 3 rfl) ?_
    refine kQi (ex := wRO cI cJ cP ad o u' f') (rest := []) hx hb hml hown hG hl (okX5_thrown l D cI cJ cP ad2 H.size (fnX5_set v ((xs ((i + (1 : Int32))).toNatClampNeg)) (((((xs ((i + (2 : Int32))).toNatClampNeg)).toInt64 <<< (((32 : Int32)).toInt64 &&& 63)) ||| (((xs ((i + (3 : Int32))).toNatClampNeg)).toInt64 &&& (4294967295 : Int64))))) hM1) (cV 0 hG kq6 kq7 kq8 kq9 kq5 hqX5_thrown ⟨by decide, by decide⟩) 0 5 rfl rfl hK hP hD hS (fun _ h => h) hN rfl (fun _ => rfl) rfl rfl (Nat.le_of_ble_eq_true rfl) dW_298 ⟨hf.1, hf.2⟩ (fun t1 z1 q1 H locs hP hD hS => ?_)
    have e1 : t1 = r := q1.trans (RlT hR')
    refine lv_iload hx hb dW_301 (lv_at hl 0 rfl) ?_
    refine lv_icmp_eq (tgt := 308) hx hb dW_303 (by decide) (fun _ => ?_) (fun h9 => absurd e1 h9)
    refine lv_goto (tgt := 637) hx hb dW_308 (by decide) ?_
    exact kk _ _ _ _ _ _ _ hI' hM1 hR' hP hD hS (lv_sub hl [1, 2, 3, 4, 5] rfl)
  by_cases ho : ((xs ((i + (1 : Int32))).toNatClampNeg)) < 0 ∨ ¬ ((xs ((i + (1 : Int32))).toNatClampNeg)) ≤ 10
  ·
    refine kHi (rest := []) hx hb hml hown hG hl (xL_set l hT D cI cJ cP ad H.size u ((xs ((i + (1 : Int32))).toNatClampNeg)) (((((xs ((i + (2 : Int32))).toNatClampNeg)).toInt64 <<< (((32 : Int32)).toInt64 &&& 63)) ||| (((xs ((i + (3 : Int32))).toNatClampNeg)).toInt64 &&& (4294967295 : Int64)))) ho) (cSW 3 hG kq25 kq26 kq27 kq13 hqL_set ⟨by decide, by decide⟩) hK hP hD hS (fun _ h => h) hN hZ hNc (WL1 u f v) (fun u9 => (WL1 _ f v).symm) rfl rfl (Nat.le_of_ble_eq_true rfl) dW_260 ⟨hf.1, hf.2⟩ (fun r1 z1 q1 H locs hP hD hS => ?_)
    obtain rfl : r1 = 1 := q1
    exact cont _ u f H locs hI (setX hR ho) hP hD hS
  ·
    have h0 : ¬ ((xs ((i + (1 : Int32))).toNatClampNeg)) < 0 := fun h => ho (Or.inl h)
    have h1 : ((xs ((i + (1 : Int32))).toNatClampNeg)) ≤ 10 := Decidable.not_not.mp fun h => ho (Or.inr h)
    have g1 := inr (n := 10) (by decide) h0 h1
    refine kHi (rest := []) hx hb hml hown hG hl (okL_set l D cI cJ cP ad H.size u ((xs ((i + (1 : Int32))).toNatClampNeg)) (((((xs ((i + (2 : Int32))).toNatClampNeg)).toInt64 <<< (((32 : Int32)).toInt64 &&& 63)) ||| (((xs ((i + (3 : Int32))).toNatClampNeg)).toInt64 &&& (4294967295 : Int64)))) hI g1) (cSW 3 hG kq25 kq26 kq27 kq13 hqL_set ⟨by decide, by decide⟩) hK hP hD hS (fun _ h => h) hN hZ hNc (WL1 u f v) (fun u9 => (WL1 _ f v).symm) rfl rfl (Nat.le_of_ble_eq_true rfl) dW_260 ⟨Nat.le_trans (Nat.le_succ _) hf.1, Nat.le_trans (Nat.le_add_right _ 6) hf.2⟩ (fun r1 z1 q1 H locs hP hD hS => ?_)
    obtain ⟨e1, e2⟩ := pq q1
    subst e1 e2
    refine widW (Nat.le_succ _) (Nat.le_add_right _ 6) ?_
    exact cont 0 (fnX4_set u ((xs ((i + (1 : Int32))).toNatClampNeg)) (((((xs ((i + (2 : Int32))).toNatClampNeg)).toInt64 <<< (((32 : Int32)).toInt64 &&& 63)) ||| (((xs ((i + (3 : Int32))).toNatClampNeg)).toInt64 &&& (4294967295 : Int64))))) f H locs (ivX4_set u ((xs ((i + (1 : Int32))).toNatClampNeg)) (((((xs ((i + (2 : Int32))).toNatClampNeg)).toInt64 <<< (((32 : Int32)).toInt64 &&& 63)) ||| (((xs ((i + (3 : Int32))).toNatClampNeg)).toInt64 &&& (4294967295 : Int64)))) hI g1) (setR hR h0 h1) hP hD hS
set_option maxRecDepth 100000 in
set_option maxHeartbeats 4000000 in
theorem case3 {p : Program} {l : Launch} {e : Env} {s : State} {m : MethodId} {below : List Frame} {meth : Method} {c : Code} {b L : Nat} {xs : Nat → Int32} {D : va_G} {cI cJ cP : ClassId} {Q : State → Prop} (hx : p.tables.exec = Jvm.exec) (hb : c.code = code) (hml : c.maxLocals = 8) (hown : s.vm.findClass RL = some m.cls) (hG : ∀ w ∈ gG, w.before #[Value.ref b] s = true) (hT : l.stackTraces = false) (hK : va_K D vwCl (tz cI cJ cP) s) (hN : NST s) (hZ : ZX (fun q => s.heap.size ≤ q) s) (hNc : va_Nc eA eI s) (hX : va_X b L xs s s.heap) (hbl : b < s.heap.size) (hL : L ≤ 2560) {cells slots : Nat} (hf : cells + 1 ≤ 1065 ∧ slots + 6 ≤ 16602) {H : Heap} {locs : List Loc} {ls : Array Slot} {ad ad2 : Nat → Nat} {o : Nat} {u : TR} {v : TM} {f : Nat → Int64} {th i : Int32} (hi : 0 ≤ i.toInt ∧ i.toInt + 4 < (L : Int)) (hI : iR u) (hM : iM v) (hR : Rl th u v) (hP : va_P D vwCl (WL cI cJ cP ad o ad2 u f v) H) (hD : va_D (fun q => s.heap.size ≤ q) (WL cI cJ cP ad o ad2 u f v)) (hS : va_S (fun q => s.heap.size ≤ q) s.heap H locs) (hl : lv_has ls 8 [(0, .ref b), (1, .ref (ad 0)), (2, .ref (ad2 0)), (3, .ref o), (4, .int i)]) (kk : ∀ (u' : TR) (v' : TM) (f' : Nat → Int64) (th' : Int32) (H' : Heap) (locs' : List Loc) (ls' : Array Slot), iR u' → iM v' → Rl th' u' v' → va_P D vwCl (WL cI cJ cP ad o ad2 u' f' v') H' → va_D (fun q => s.heap.size ≤ q) (WL cI cJ cP ad o ad2 u' f' v') → va_S (fun q => s.heap.size ≤ q) s.heap H' locs' → lv_has ls' 8 [(0, .ref b), (1, .ref (ad 0)), (2, .ref (ad2 0)), (3, .ref o), (4, .int i)] → W p l e room_1 s m #[Value.ref b] below meth c H' locs' (cells + 1) (slots + 6) Q (F0 m 637 ls' [])) : W p l e room_1 s m #[Value.ref b] below meth c H locs cells slots Q (F0 m 311 ls []) := by
  refine lv_aload_n hx hb dW_311 rfl (lv_at hl 1 rfl) ?_
  refine lv_aload_n hx hb dW_312 rfl (lv_at hl 0 rfl) ?_
  refine lv_iload hx hb dW_313 (lv_at hl 4 rfl) ?_
  refine lv_iconst (v := 1) hx hb dW_315 (by decide) ?_
  refine lv_iadd hx hb dW_316 ?_
  refine va_sld hx hb hX hbl (Nat.not_le.mpr hbl) hS (sc hL hi 1 (by decide)) dW_317 ?_
  refine lv_aload_n hx hb dW_318 rfl (lv_at hl 3 rfl) ?_
  have cont : ∀ (r : Int32) (u' : TR) (f' : Nat → Int64) (H1 : Heap) (locs1 : List Loc), iR u' → Rl r u' ((fnX5_get v ((xs ((i + (1 : Int32))).toNatClampNeg))).2) → (r = 0 → f' 0 = (fnX5_get v ((xs ((i + (1 : Int32))).toNatClampNeg))).1) → va_P D vwCl (WL cI cJ cP ad o ad2 u' f' v) H1 → va_D (fun q => s.heap.size ≤ q) (WL cI cJ cP ad o ad2 u' f' v) → va_S (fun q => s.heap.size ≤ q) s.heap H1 locs1 → W p l e room_1 s m #[Value.ref b] below meth c H1 locs1 (cells + 1) (slots + 6) Q (F0 m 322 ls [.int r]) := by
    intro r u' f' H locs hI' hR' ha hP hD hS
    refine lv_istore (lv' := [(5, .int r), (0, .ref b), (1, .ref (ad 0)), (2, .ref (ad2 0)), (3, .ref o), (4, .int i)]) hx hb dW_322 hl (by decide) rfl (fun ls hl => ?_)
    refine lv_aload_n hx hb dW_324 rfl (lv_at hl 3 rfl) ?_
    refine lv_aload_n hx hb dW_325 rfl (lv_at hl 1 rfl) ?_
    refine lv_iload hx hb dW_326 (lv_at hl 5 rfl) ?_
    refine lv_iconst (v := 1) hx hb dW_328 (by decide) ?_
    refine lv_iadd hx hb dW_329 ?_
    refine va_sld hx hb hX hbl (Nat.not_le.mpr hbl) hS (sc hL hi 1 (by decide)) dW_330 ?_
    refine kQl (ex := wRO cI cJ cP ad o u' f') (rest := []) hx hb hml hown hG hl (okX5_get l D cI cJ cP ad2 H.size v ((xs ((i + (1 : Int32))).toNatClampNeg)) hM) (cV 1 hG kq28 kq29 kq30 kq31 kq5 hqX5_get ⟨by decide, by decide⟩) 0 5 rfl rfl hK hP hD hS (fun _ h => h) hN rfl (fun _ => rfl) rfl rfl (Nat.le_of_ble_eq_true rfl) dW_331 ⟨hf.1, hf.2⟩ (fun b1 v1 q1 H locs hP hD hS => ?_)
    obtain ⟨e1, e2⟩ := pq q1
    subst e1 e2
    have hM1 : iM ((fnX5_get v ((xs ((i + (1 : Int32))).toNatClampNeg))).2) := ivX5_get v ((xs ((i + (1 : Int32))).toNatClampNeg)) hM
    refine lv_lstore (lv' := [(6, .long (fnX5_get v ((xs ((i + (1 : Int32))).toNatClampNeg))).1), (5, .int r), (0, .ref b), (1, .ref (ad 0)), (2, .ref (ad2 0)), (3, .ref o), (4, .int i)]) hx hb dW_334 hl (by decide) rfl (fun ls hl => ?_)
    refine lv_aload_n hx hb dW_336 rfl (lv_at hl 4 rfl) ?_
    refine kQi (ex := wRO cI cJ cP ad o u' f') (rest := []) hx hb hml hown hG hl (okX5_thrown l D cI cJ cP ad2 H.size ((fnX5_get v ((xs ((i + (1 : Int32))).toNatClampNeg))).2) hM1) (cV 0 hG kq6 kq7 kq8 kq9 kq5 hqX5_thrown ⟨by decide, by decide⟩) 0 5 rfl rfl hK hP hD hS (fun _ h => h) hN rfl (fun _ => rfl) rfl rfl (Nat.le_of_ble_eq_true rfl) dW_337 ⟨hf.1, hf.2⟩ (fun t1 z1 q1 H locs hP hD hS => ?_)
    have e1 : t1 = r := q1.trans (RlT hR')
    refine lv_iload hx hb dW_340 (lv_at hl 1 rfl) ?_
    refine lv_icmp_eq (tgt := 347) hx hb dW_342 (by decide) (fun _ => ?_) (fun h9 => absurd e1 h9)
    refine lv_iload hx hb dW_347 (lv_at hl 1 rfl) ?_
    refine lv_if_ne (tgt := 363) hx hb dW_349 (by decide) (fun h9 => ?_) (fun h9 => ?_)
    ·
      refine lv_goto (tgt := 637) hx hb dW_363 (by decide) ?_
      exact kk _ _ _ _ _ _ _ hI' hM1 hR' hP hD hS (lv_sub hl [2, 3, 4, 5, 6] rfl)
    ·
      refine lv_aload_n hx hb dW_352 rfl (lv_at hl 5 rfl) ?_
      refine lv_iconst (v := 0) hx hb dW_353 (by decide) ?_
      refine gl (D := D) (j := 0) (f := f') hx hb hK hP 21 1 (WLo _ _ _) rfl (inL (by decide)) (by decide) dW_354 ?_
      refine lv_lload hx hb dW_355 (lv_at hl 0 rfl) ?_
      refine lq_eq (tgt := 363) hx hb dW_357 dW_358 (by decide) (fun _ => ?_) (fun h8 => absurd (ha h9) h8)
      refine lv_goto (tgt := 637) hx hb dW_363 (by decide) ?_
      exact kk _ _ _ _ _ _ _ hI' hM1 hR' hP hD hS (lv_sub hl [2, 3, 4, 5, 6] rfl)
  by_cases ho : ((xs ((i + (1 : Int32))).toNatClampNeg)) < 0 ∨ ¬ ((xs ((i + (1 : Int32))).toNatClampNeg)) ≤ 10
  ·
    refine kHi (rest := []) hx hb hml hown hG hl (xL_get l hT D cI cJ cP ad o H.size u f ((xs ((i + (1 : Int32))).toNatClampNeg)) ho) (cSW 3 hG kq32 kq33 kq34 kq13 hqL_get ⟨by decide, by decide⟩) hK hP hD hS (fun _ h => h) hN hZ hNc rfl (fun _ => rfl) rfl rfl (Nat.le_of_ble_eq_true rfl) dW_319 ⟨hf.1, hf.2⟩ (fun r1 z1 q1 H locs hP hD hS => ?_)
    obtain rfl : r1 = 1 := q1
    exact cont _ u f H locs hI (getX hR ho) (fun h8 => absurd h8 (by decide)) hP hD hS
  ·
    have h0 : ¬ ((xs ((i + (1 : Int32))).toNatClampNeg)) < 0 := fun h => ho (Or.inl h)
    have h1 : ((xs ((i + (1 : Int32))).toNatClampNeg)) ≤ 10 := Decidable.not_not.mp fun h => ho (Or.inr h)
    have g1 := inr (n := 10) (by decide) h0 h1
    refine kHi (rest := []) hx hb hml hown hG hl (okL_get l D cI cJ cP ad o H.size u f ((xs ((i + (1 : Int32))).toNatClampNeg)) hI g1) (cSW 3 hG kq32 kq33 kq34 kq13 hqL_get ⟨by decide, by decide⟩) hK hP hD hS (fun _ h => h) hN hZ hNc rfl (fun _ => rfl) rfl rfl (Nat.le_of_ble_eq_true rfl) dW_319 ⟨Nat.le_trans (Nat.le_succ _) hf.1, Nat.le_trans (Nat.le_add_right _ 6) hf.2⟩ (fun r1 z1 q1 H locs hP hD hS => ?_)
    obtain ⟨e1, e2⟩ := pq q1
    subst e1 e2
    refine widW (Nat.le_succ _) (Nat.le_add_right _ 6) ?_
    have r2 := getR hR h0 h1
    exact cont 0 (u) (vp_updL f 0 (fnX4_get u ((xs ((i + (1 : Int32))).toNatClampNeg)))) H locs hI r2.2 (fun _ => by rw [r2.1]; exact upd0 f _) hP hD hS
set_option maxRecDepth 100000 in
set_option maxHeartbeats 4000000 in
theorem case4 {p : Program} {l : Launch} {e : Env} {s : State} {m : MethodId} {below : List Frame} {meth : Method} {c : Code} {b L : Nat} {xs : Nat → Int32} {D : va_G} {cI cJ cP : ClassId} {Q : State → Prop} (hx : p.tables.exec = Jvm.exec) (hb : c.code = code) (hml : c.maxLocals = 8) (hown : s.vm.findClass RL = some m.cls) (hG : ∀ w ∈ gG, w.before #[Value.ref b] s = true) (hT : l.stackTraces = false) (hK : va_K D vwCl (tz cI cJ cP) s) (hN : NST s) (hZ : ZX (fun q => s.heap.size ≤ q) s) (hNc : va_Nc eA eI s) (hX : va_X b L xs s s.heap) (hbl : b < s.heap.size) (hL : L ≤ 2560) {cells slots : Nat} (hf : cells + 1 ≤ 1065 ∧ slots + 6 ≤ 16602) {H : Heap} {locs : List Loc} {ls : Array Slot} {ad ad2 : Nat → Nat} {o : Nat} {u : TR} {v : TM} {f : Nat → Int64} {th i : Int32} (hi : 0 ≤ i.toInt ∧ i.toInt + 4 < (L : Int)) (hI : iR u) (hM : iM v) (hR : Rl th u v) (hP : va_P D vwCl (WL cI cJ cP ad o ad2 u f v) H) (hD : va_D (fun q => s.heap.size ≤ q) (WL cI cJ cP ad o ad2 u f v)) (hS : va_S (fun q => s.heap.size ≤ q) s.heap H locs) (hl : lv_has ls 8 [(0, .ref b), (1, .ref (ad 0)), (2, .ref (ad2 0)), (3, .ref o), (4, .int i)]) (kk : ∀ (u' : TR) (v' : TM) (f' : Nat → Int64) (th' : Int32) (H' : Heap) (locs' : List Loc) (ls' : Array Slot), iR u' → iM v' → Rl th' u' v' → va_P D vwCl (WL cI cJ cP ad o ad2 u' f' v') H' → va_D (fun q => s.heap.size ≤ q) (WL cI cJ cP ad o ad2 u' f' v') → va_S (fun q => s.heap.size ≤ q) s.heap H' locs' → lv_has ls' 8 [(0, .ref b), (1, .ref (ad 0)), (2, .ref (ad2 0)), (3, .ref o), (4, .int i)] → W p l e room_1 s m #[Value.ref b] below meth c H' locs' (cells + 1) (slots + 6) Q (F0 m 637 ls' [])) : W p l e room_1 s m #[Value.ref b] below meth c H locs cells slots Q (F0 m 366 ls []) := by
  refine lv_aload_n hx hb dW_366 rfl (lv_at hl 1 rfl) ?_
  refine lv_aload_n hx hb dW_367 rfl (lv_at hl 0 rfl) ?_
  refine lv_iload hx hb dW_368 (lv_at hl 4 rfl) ?_
  refine lv_iconst (v := 1) hx hb dW_370 (by decide) ?_
  refine lv_iadd hx hb dW_371 ?_
  refine va_sld hx hb hX hbl (Nat.not_le.mpr hbl) hS (sc hL hi 1 (by decide)) dW_372 ?_
  refine lv_aload_n hx hb dW_373 rfl (lv_at hl 3 rfl) ?_
  have cont : ∀ (r : Int32) (u' : TR) (f' : Nat → Int64) (H1 : Heap) (locs1 : List Loc), iR u' → Rl r u' ((fnX5_run v ((xs ((i + (1 : Int32))).toNatClampNeg))).2) → (r = 0 → f' 0 = ((fnX5_run v ((xs ((i + (1 : Int32))).toNatClampNeg))).1).toInt64) → va_P D vwCl (WL cI cJ cP ad o ad2 u' f' v) H1 → va_D (fun q => s.heap.size ≤ q) (WL cI cJ cP ad o ad2 u' f' v) → va_S (fun q => s.heap.size ≤ q) s.heap H1 locs1 → W p l e room_1 s m #[Value.ref b] below meth c H1 locs1 (cells + 1) (slots + 6) Q (F0 m 377 ls [.int r]) := by
    intro r u' f' H locs hI' hR' ha hP hD hS
    refine lv_istore (lv' := [(5, .int r), (0, .ref b), (1, .ref (ad 0)), (2, .ref (ad2 0)), (3, .ref o), (4, .int i)]) hx hb dW_377 hl (by decide) rfl (fun ls hl => ?_)
    refine lv_aload_n hx hb dW_379 rfl (lv_at hl 3 rfl) ?_
    refine lv_aload_n hx hb dW_380 rfl (lv_at hl 1 rfl) ?_
    refine lv_iload hx hb dW_381 (lv_at hl 5 rfl) ?_
    refine lv_iconst (v := 1) hx hb dW_383 (by decide) ?_
    refine lv_iadd hx hb dW_384 ?_
    refine va_sld hx hb hX hbl (Nat.not_le.mpr hbl) hS (sc hL hi 1 (by decide)) dW_385 ?_
    refine kQi (ex := wRO cI cJ cP ad o u' f') (rest := []) hx hb hml hown hG hl (okX5_run l D cI cJ cP ad2 H.size v ((xs ((i + (1 : Int32))).toNatClampNeg)) hM) (cV 1 hG kq35 kq36 kq37 kq38 kq5 hqX5_run ⟨by decide, by decide⟩) 0 5 rfl rfl hK hP hD hS (fun _ h => h) hN rfl (fun _ => rfl) rfl rfl (Nat.le_of_ble_eq_true rfl) dW_386 ⟨hf.1, hf.2⟩ (fun b1 v1 q1 H locs hP hD hS => ?_)
    obtain ⟨e1, e2⟩ := pq q1
    subst e1 e2
    have hM1 : iM ((fnX5_run v ((xs ((i + (1 : Int32))).toNatClampNeg))).2) := ivX5_run v ((xs ((i + (1 : Int32))).toNatClampNeg)) hM
    refine lv_istore (lv' := [(6, .int (fnX5_run v ((xs ((i + (1 : Int32))).toNatClampNeg))).1), (5, .int r), (0, .ref b), (1, .ref (ad 0)), (2, .ref (ad2 0)), (3, .ref o), (4, .int i)]) hx hb dW_389 hl (by decide) rfl (fun ls hl => ?_)
    refine lv_aload_n hx hb dW_391 rfl (lv_at hl 4 rfl) ?_
    refine kQi (ex := wRO cI cJ cP ad o u' f') (rest := []) hx hb hml hown hG hl (okX5_thrown l D cI cJ cP ad2 H.size ((fnX5_run v ((xs ((i + (1 : Int32))).toNatClampNeg))).2) hM1) (cV 0 hG kq6 kq7 kq8 kq9 kq5 hqX5_thrown ⟨by decide, by decide⟩) 0 5 rfl rfl hK hP hD hS (fun _ h => h) hN rfl (fun _ => rfl) rfl rfl (Nat.le_of_ble_eq_true rfl) dW_392 ⟨hf.1, hf.2⟩ (fun t1 z1 q1 H locs hP hD hS => ?_)
    have e1 : t1 = r := q1.trans (RlT hR')
    refine lv_iload hx hb dW_395 (lv_at hl 1 rfl) ?_
    refine lv_icmp_eq (tgt := 402) hx hb dW_397 (by decide) (fun _ => ?_) (fun h9 => absurd e1 h9)
    refine lv_iload hx hb dW_402 (lv_at hl 1 rfl) ?_
    refine lv_if_ne (tgt := 419) hx hb dW_404 (by decide) (fun h9 => ?_) (fun h9 => ?_)
    ·
      refine lv_goto (tgt := 637) hx hb dW_419 (by decide) ?_
      exact kk _ _ _ _ _ _ _ hI' hM1 hR' hP hD hS (lv_sub hl [2, 3, 4, 5, 6] rfl)
    ·
      refine lv_aload_n hx hb dW_407 rfl (lv_at hl 5 rfl) ?_
      refine lv_iconst (v := 0) hx hb dW_408 (by decide) ?_
      refine gl (D := D) (j := 0) (f := f') hx hb hK hP 21 1 (WLo _ _ _) rfl (inL (by decide)) (by decide) dW_409 ?_
      refine lv_iload hx hb dW_410 (lv_at hl 0 rfl) ?_
      refine lv_i2l hx hb dW_412 rfl ?_
      refine lq_eq (tgt := 419) hx hb dW_413 dW_414 (by decide) (fun _ => ?_) (fun h8 => absurd (ha h9) h8)
      refine lv_goto (tgt := 637) hx hb dW_419 (by decide) ?_
      exact kk _ _ _ _ _ _ _ hI' hM1 hR' hP hD hS (lv_sub hl [2, 3, 4, 5, 6] rfl)
  by_cases ho : ((xs ((i + (1 : Int32))).toNatClampNeg)) < 0 ∨ ¬ ((xs ((i + (1 : Int32))).toNatClampNeg)) ≤ 100
  ·
    refine kHi (rest := []) hx hb hml hown hG hl (xL_run l hT D cI cJ cP ad o H.size u f ((xs ((i + (1 : Int32))).toNatClampNeg)) ho) (cSW 3 hG kq39 kq40 kq41 kq13 hqL_run ⟨by decide, by decide⟩) hK hP hD hS (fun _ h => h) hN hZ hNc rfl (fun _ => rfl) rfl rfl (Nat.le_of_ble_eq_true rfl) dW_374 ⟨hf.1, hf.2⟩ (fun r1 z1 q1 H locs hP hD hS => ?_)
    obtain rfl : r1 = 1 := q1
    exact cont _ u f H locs hI (runX hR ho) (fun h8 => absurd h8 (by decide)) hP hD hS
  ·
    have h0 : ¬ ((xs ((i + (1 : Int32))).toNatClampNeg)) < 0 := fun h => ho (Or.inl h)
    have h1 : ((xs ((i + (1 : Int32))).toNatClampNeg)) ≤ 100 := Decidable.not_not.mp fun h => ho (Or.inr h)
    have g1 := inr (n := 100) (by decide) h0 h1
    refine kHi (rest := []) hx hb hml hown hG hl (okL_run l D cI cJ cP ad o H.size u f ((xs ((i + (1 : Int32))).toNatClampNeg)) hI g1) (cSW 3 hG kq39 kq40 kq41 kq13 hqL_run ⟨by decide, by decide⟩) hK hP hD hS (fun _ h => h) hN hZ hNc rfl (fun _ => rfl) rfl rfl (Nat.le_of_ble_eq_true rfl) dW_374 ⟨Nat.le_trans (Nat.le_succ _) hf.1, Nat.le_trans (Nat.le_add_right _ 6) hf.2⟩ (fun r1 z1 q1 H locs hP hD hS => ?_)
    obtain ⟨e1, e2⟩ := pq q1
    subst e1 e2
    refine widW (Nat.le_succ _) (Nat.le_add_right _ 6) ?_
    have r2 := runR hI hR h0 h1
    exact cont 0 ((fnX4_run u ((xs ((i + (1 : Int32))).toNatClampNeg))).2) (vp_updL f 0 ((fnX4_run u ((xs ((i + (1 : Int32))).toNatClampNeg))).1).toInt64) H locs (ivX4_run u ((xs ((i + (1 : Int32))).toNatClampNeg)) hI g1) r2.2 (fun _ => by rw [r2.1]; exact upd0 f _) hP hD hS
set_option maxRecDepth 100000 in
set_option maxHeartbeats 4000000 in
theorem case6 {p : Program} {l : Launch} {e : Env} {s : State} {m : MethodId} {below : List Frame} {meth : Method} {c : Code} {b L : Nat} {xs : Nat → Int32} {D : va_G} {cI cJ cP : ClassId} {Q : State → Prop} (hx : p.tables.exec = Jvm.exec) (hb : c.code = code) (hml : c.maxLocals = 8) (hown : s.vm.findClass RL = some m.cls) (hG : ∀ w ∈ gG, w.before #[Value.ref b] s = true) (hT : l.stackTraces = false) (hK : va_K D vwCl (tz cI cJ cP) s) (hN : NST s) (hZ : ZX (fun q => s.heap.size ≤ q) s) (hNc : va_Nc eA eI s) (hX : va_X b L xs s s.heap) (hbl : b < s.heap.size) (hL : L ≤ 2560) {cells slots : Nat} (hf : cells + 1 ≤ 1065 ∧ slots + 6 ≤ 16602) {H : Heap} {locs : List Loc} {ls : Array Slot} {ad ad2 : Nat → Nat} {o : Nat} {u : TR} {v : TM} {f : Nat → Int64} {th i : Int32} (hi : 0 ≤ i.toInt ∧ i.toInt + 4 < (L : Int)) (hI : iR u) (hM : iM v) (hR : Rl th u v) (hP : va_P D vwCl (WL cI cJ cP ad o ad2 u f v) H) (hD : va_D (fun q => s.heap.size ≤ q) (WL cI cJ cP ad o ad2 u f v)) (hS : va_S (fun q => s.heap.size ≤ q) s.heap H locs) (hl : lv_has ls 8 [(0, .ref b), (1, .ref (ad 0)), (2, .ref (ad2 0)), (3, .ref o), (4, .int i)]) (kk : ∀ (u' : TR) (v' : TM) (f' : Nat → Int64) (th' : Int32) (H' : Heap) (locs' : List Loc) (ls' : Array Slot), iR u' → iM v' → Rl th' u' v' → va_P D vwCl (WL cI cJ cP ad o ad2 u' f' v') H' → va_D (fun q => s.heap.size ≤ q) (WL cI cJ cP ad o ad2 u' f' v') → va_S (fun q => s.heap.size ≤ q) s.heap H' locs' → lv_has ls' 8 [(0, .ref b), (1, .ref (ad 0)), (2, .ref (ad2 0)), (3, .ref o), (4, .int i)] → W p l e room_1 s m #[Value.ref b] below meth c H' locs' (cells + 1) (slots + 6) Q (F0 m 637 ls' [])) : W p l e room_1 s m #[Value.ref b] below meth c H locs cells slots Q (F0 m 433 ls []) := by
  refine lv_aload_n hx hb dW_433 rfl (lv_at hl 1 rfl) ?_
  refine lv_aload_n hx hb dW_434 rfl (lv_at hl 0 rfl) ?_
  refine lv_iload hx hb dW_435 (lv_at hl 4 rfl) ?_
  refine lv_iconst (v := 1) hx hb dW_437 (by decide) ?_
  refine lv_iadd hx hb dW_438 ?_
  refine va_sld hx hb hX hbl (Nat.not_le.mpr hbl) hS (sc hL hi 1 (by decide)) dW_439 ?_
  have cont : ∀ (r : Int32) (u' : TR) (f' : Nat → Int64) (H1 : Heap) (locs1 : List Loc), iR u' → Rl r u' (fnX5_interrupt v ((xs ((i + (1 : Int32))).toNatClampNeg))) → va_P D vwCl (WL cI cJ cP ad o ad2 u' f' v) H1 → va_D (fun q => s.heap.size ≤ q) (WL cI cJ cP ad o ad2 u' f' v) → va_S (fun q => s.heap.size ≤ q) s.heap H1 locs1 → W p l e room_1 s m #[Value.ref b] below meth c H1 locs1 (cells + 1) (slots + 6) Q (F0 m 443 ls [.int r]) := by
    intro r u' f' H locs hI' hR' hP hD hS
    refine lv_istore (lv' := [(5, .int r), (0, .ref b), (1, .ref (ad 0)), (2, .ref (ad2 0)), (3, .ref o), (4, .int i)]) hx hb dW_443 hl (by decide) rfl (fun ls hl => ?_)
    refine lv_aload_n hx hb dW_445 rfl (lv_at hl 3 rfl) ?_
    refine lv_aload_n hx hb dW_446 rfl (lv_at hl 1 rfl) ?_
    refine lv_iload hx hb dW_447 (lv_at hl 5 rfl) ?_
    refine lv_iconst (v := 1) hx hb dW_449 (by decide) ?_
    refine lv_iadd hx hb dW_450 ?_
    refine va_sld hx hb hX hbl (Nat.not_le.mpr hbl) hS (sc hL hi 1 (by decide)) dW_451 ?_
    refine kQv (ex := wRO cI cJ cP ad o u' f') (rest := []) hx hb hml hown hG hl (okX5_interrupt l D cI cJ cP ad2 H.size v ((xs ((i + (1 : Int32))).toNatClampNeg)) hM) (cV 1 hG kq42 kq43 kq44 kq45 kq5 hqX5_interrupt ⟨by decide, by decide⟩) 0 5 rfl rfl hK hP hD hS (fun _ h => h) hN rfl (fun _ => rfl) rfl rfl (Nat.le_of_ble_eq_true rfl) dW_452 ⟨hf.1, hf.2⟩ (fun v1 q1 H locs hP hD hS => ?_)
    obtain rfl : v1 = fnX5_interrupt v ((xs ((i + (1 : Int32))).toNatClampNeg)) := q1
    have hM1 : iM (fnX5_interrupt v ((xs ((i + (1 : Int32))).toNatClampNeg))) := ivX5_interrupt v ((xs ((i + (1 : Int32))).toNatClampNeg)) hM
    refine lv_aload_n hx hb dW_455 rfl (lv_at hl 3 rfl) ?_
    refine kQi (ex := wRO cI cJ cP ad o u' f') (rest := []) hx hb hml hown hG hl (okX5_thrown l D cI cJ cP ad2 H.size (fnX5_interrupt v ((xs ((i + (1 : Int32))).toNatClampNeg))) hM1) (cV 0 hG kq6 kq7 kq8 kq9 kq5 hqX5_thrown ⟨by decide, by decide⟩) 0 5 rfl rfl hK hP hD hS (fun _ h => h) hN rfl (fun _ => rfl) rfl rfl (Nat.le_of_ble_eq_true rfl) dW_456 ⟨hf.1, hf.2⟩ (fun t1 z1 q1 H locs hP hD hS => ?_)
    have e1 : t1 = r := q1.trans (RlT hR')
    refine lv_iload hx hb dW_459 (lv_at hl 0 rfl) ?_
    refine lv_icmp_eq (tgt := 466) hx hb dW_461 (by decide) (fun _ => ?_) (fun h9 => absurd e1 h9)
    refine lv_goto (tgt := 637) hx hb dW_466 (by decide) ?_
    exact kk _ _ _ _ _ _ _ hI' hM1 hR' hP hD hS (lv_sub hl [1, 2, 3, 4, 5] rfl)
  by_cases ho : ((xs ((i + (1 : Int32))).toNatClampNeg)) < 0 ∨ ¬ ((xs ((i + (1 : Int32))).toNatClampNeg)) ≤ 3
  ·
    refine kHi (rest := []) hx hb hml hown hG hl (xL_interrupt l hT D cI cJ cP ad H.size u ((xs ((i + (1 : Int32))).toNatClampNeg)) ho) (cSW 2 hG kq46 kq47 kq48 kq13 hqL_interrupt ⟨by decide, by decide⟩) hK hP hD hS (fun _ h => h) hN hZ hNc (WL1 u f v) (fun u9 => (WL1 _ f v).symm) rfl rfl (Nat.le_of_ble_eq_true rfl) dW_440 ⟨hf.1, hf.2⟩ (fun r1 z1 q1 H locs hP hD hS => ?_)
    obtain rfl : r1 = 1 := q1
    exact cont _ u f H locs hI (intrX hR ho) hP hD hS
  ·
    have h0 : ¬ ((xs ((i + (1 : Int32))).toNatClampNeg)) < 0 := fun h => ho (Or.inl h)
    have h1 : ((xs ((i + (1 : Int32))).toNatClampNeg)) ≤ 3 := Decidable.not_not.mp fun h => ho (Or.inr h)
    have g1 := inr (n := 3) (by decide) h0 h1
    refine kHi (rest := []) hx hb hml hown hG hl (okL_interrupt l D cI cJ cP ad H.size u ((xs ((i + (1 : Int32))).toNatClampNeg)) hI g1) (cSW 2 hG kq46 kq47 kq48 kq13 hqL_interrupt ⟨by decide, by decide⟩) hK hP hD hS (fun _ h => h) hN hZ hNc (WL1 u f v) (fun u9 => (WL1 _ f v).symm) rfl rfl (Nat.le_of_ble_eq_true rfl) dW_440 ⟨Nat.le_trans (Nat.le_succ _) hf.1, Nat.le_trans (Nat.le_add_right _ 6) hf.2⟩ (fun r1 z1 q1 H locs hP hD hS => ?_)
    obtain ⟨e1, e2⟩ := pq q1
    subst e1 e2
    refine widW (Nat.le_succ _) (Nat.le_add_right _ 6) ?_
    exact cont 0 (fnX4_interrupt u ((xs ((i + (1 : Int32))).toNatClampNeg))) f H locs (ivX4_interrupt u ((xs ((i + (1 : Int32))).toNatClampNeg)) hI g1) (intrR hR h0 h1) hP hD hS
set_option maxRecDepth 100000 in
set_option maxHeartbeats 4000000 in
theorem case10 {p : Program} {l : Launch} {e : Env} {s : State} {m : MethodId} {below : List Frame} {meth : Method} {c : Code} {b L : Nat} {xs : Nat → Int32} {D : va_G} {cI cJ cP : ClassId} {Q : State → Prop} (hx : p.tables.exec = Jvm.exec) (hb : c.code = code) (hml : c.maxLocals = 8) (hown : s.vm.findClass RL = some m.cls) (hG : ∀ w ∈ gG, w.before #[Value.ref b] s = true) (hT : l.stackTraces = false) (hK : va_K D vwCl (tz cI cJ cP) s) (hN : NST s) (hZ : ZX (fun q => s.heap.size ≤ q) s) (hNc : va_Nc eA eI s) (hX : va_X b L xs s s.heap) (hbl : b < s.heap.size) (hL : L ≤ 2560) {cells slots : Nat} (hf : cells + 1 ≤ 1065 ∧ slots + 6 ≤ 16602) {H : Heap} {locs : List Loc} {ls : Array Slot} {ad ad2 : Nat → Nat} {o : Nat} {u : TR} {v : TM} {f : Nat → Int64} {th i : Int32} (hi : 0 ≤ i.toInt ∧ i.toInt + 4 < (L : Int)) (hI : iR u) (hM : iM v) (hR : Rl th u v) (hP : va_P D vwCl (WL cI cJ cP ad o ad2 u f v) H) (hD : va_D (fun q => s.heap.size ≤ q) (WL cI cJ cP ad o ad2 u f v)) (hS : va_S (fun q => s.heap.size ≤ q) s.heap H locs) (hl : lv_has ls 8 [(0, .ref b), (1, .ref (ad 0)), (2, .ref (ad2 0)), (3, .ref o), (4, .int i)]) (kk : ∀ (u' : TR) (v' : TM) (f' : Nat → Int64) (th' : Int32) (H' : Heap) (locs' : List Loc) (ls' : Array Slot), iR u' → iM v' → Rl th' u' v' → va_P D vwCl (WL cI cJ cP ad o ad2 u' f' v') H' → va_D (fun q => s.heap.size ≤ q) (WL cI cJ cP ad o ad2 u' f' v') → va_S (fun q => s.heap.size ≤ q) s.heap H' locs' → lv_has ls' 8 [(0, .ref b), (1, .ref (ad 0)), (2, .ref (ad2 0)), (3, .ref o), (4, .int i)] → W p l e room_1 s m #[Value.ref b] below meth c H' locs' (cells + 1) (slots + 6) Q (F0 m 637 ls' [])) : W p l e room_1 s m #[Value.ref b] below meth c H locs cells slots Q (F0 m 545 ls []) := by
  refine lv_aload_n hx hb dW_545 rfl (lv_at hl 1 rfl) ?_
  refine lv_aload_n hx hb dW_546 rfl (lv_at hl 0 rfl) ?_
  refine lv_iload hx hb dW_547 (lv_at hl 4 rfl) ?_
  refine lv_iconst (v := 1) hx hb dW_549 (by decide) ?_
  refine lv_iadd hx hb dW_550 ?_
  refine va_sld hx hb hX hbl (Nat.not_le.mpr hbl) hS (sc hL hi 1 (by decide)) dW_551 ?_
  refine lv_aload_n hx hb dW_552 rfl (lv_at hl 0 rfl) ?_
  refine lv_iload hx hb dW_553 (lv_at hl 4 rfl) ?_
  refine lv_iconst (v := 2) hx hb dW_555 (by decide) ?_
  refine lv_iadd hx hb dW_556 ?_
  refine va_sld hx hb hX hbl (Nat.not_le.mpr hbl) hS (sc hL hi 2 (by decide)) dW_557 ?_
  refine lv_aload_n hx hb dW_558 rfl (lv_at hl 0 rfl) ?_
  refine lv_iload hx hb dW_559 (lv_at hl 4 rfl) ?_
  refine lv_iconst (v := 3) hx hb dW_561 (by decide) ?_
  refine lv_iadd hx hb dW_562 ?_
  refine va_sld hx hb hX hbl (Nat.not_le.mpr hbl) hS (sc hL hi 3 (by decide)) dW_563 ?_
  refine lv_aload_n hx hb dW_564 rfl (lv_at hl 0 rfl) ?_
  refine lv_iload hx hb dW_565 (lv_at hl 4 rfl) ?_
  refine lv_iconst (v := 4) hx hb dW_567 (by decide) ?_
  refine lv_iadd hx hb dW_568 ?_
  refine va_sld hx hb hX hbl (Nat.not_le.mpr hbl) hS (sc hL hi 4 (by decide)) dW_569 ?_
  refine lv_aload_n hx hb dW_570 rfl (lv_at hl 3 rfl) ?_
  have cont : ∀ (r : Int32) (u' : TR) (f' : Nat → Int64) (H1 : Heap) (locs1 : List Loc), iR u' → Rl r u' ((fnX5_reach v ((xs ((i + (1 : Int32))).toNatClampNeg)) ((xs ((i + (2 : Int32))).toNatClampNeg)) ((xs ((i + (3 : Int32))).toNatClampNeg)) ((xs ((i + (4 : Int32))).toNatClampNeg))).2) → (r = 0 → f' 0 = ((fnX5_reach v ((xs ((i + (1 : Int32))).toNatClampNeg)) ((xs ((i + (2 : Int32))).toNatClampNeg)) ((xs ((i + (3 : Int32))).toNatClampNeg)) ((xs ((i + (4 : Int32))).toNatClampNeg))).1).toInt64) → va_P D vwCl (WL cI cJ cP ad o ad2 u' f' v) H1 → va_D (fun q => s.heap.size ≤ q) (WL cI cJ cP ad o ad2 u' f' v) → va_S (fun q => s.heap.size ≤ q) s.heap H1 locs1 → W p l e room_1 s m #[Value.ref b] below meth c H1 locs1 (cells + 1) (slots + 6) Q (F0 m 574 ls [.int r]) := by
    intro r u' f' H locs hI' hR' ha hP hD hS
    refine lv_istore (lv' := [(5, .int r), (0, .ref b), (1, .ref (ad 0)), (2, .ref (ad2 0)), (3, .ref o), (4, .int i)]) hx hb dW_574 hl (by decide) rfl (fun ls hl => ?_)
    refine lv_aload_n hx hb dW_576 rfl (lv_at hl 3 rfl) ?_
    refine lv_aload_n hx hb dW_577 rfl (lv_at hl 1 rfl) ?_
    refine lv_iload hx hb dW_578 (lv_at hl 5 rfl) ?_
    refine lv_iconst (v := 1) hx hb dW_580 (by decide) ?_
    refine lv_iadd hx hb dW_581 ?_
    refine va_sld hx hb hX hbl (Nat.not_le.mpr hbl) hS (sc hL hi 1 (by decide)) dW_582 ?_
    refine lv_aload_n hx hb dW_583 rfl (lv_at hl 1 rfl) ?_
    refine lv_iload hx hb dW_584 (lv_at hl 5 rfl) ?_
    refine lv_iconst (v := 2) hx hb dW_586 (by decide) ?_
    refine lv_iadd hx hb dW_587 ?_
    refine va_sld hx hb hX hbl (Nat.not_le.mpr hbl) hS (sc hL hi 2 (by decide)) dW_588 ?_
    refine lv_aload_n hx hb dW_589 rfl (lv_at hl 1 rfl) ?_
    refine lv_iload hx hb dW_590 (lv_at hl 5 rfl) ?_
    refine lv_iconst (v := 3) hx hb dW_592 (by decide) ?_
    refine lv_iadd hx hb dW_593 ?_
    refine va_sld hx hb hX hbl (Nat.not_le.mpr hbl) hS (sc hL hi 3 (by decide)) dW_594 ?_
    refine lv_aload_n hx hb dW_595 rfl (lv_at hl 1 rfl) ?_
    refine lv_iload hx hb dW_596 (lv_at hl 5 rfl) ?_
    refine lv_iconst (v := 4) hx hb dW_598 (by decide) ?_
    refine lv_iadd hx hb dW_599 ?_
    refine va_sld hx hb hX hbl (Nat.not_le.mpr hbl) hS (sc hL hi 4 (by decide)) dW_600 ?_
    refine kQi (ex := wRO cI cJ cP ad o u' f') (rest := []) hx hb hml hown hG hl (okX5_reach l D cI cJ cP ad2 H.size v ((xs ((i + (1 : Int32))).toNatClampNeg)) ((xs ((i + (2 : Int32))).toNatClampNeg)) ((xs ((i + (3 : Int32))).toNatClampNeg)) ((xs ((i + (4 : Int32))).toNatClampNeg)) hM) (cV 4 hG kq49 kq50 kq51 kq52 kq5 hqX5_reach ⟨by decide, by decide⟩) 0 5 rfl rfl hK hP hD hS (fun _ h => h) hN rfl (fun _ => rfl) rfl rfl (Nat.le_of_ble_eq_true rfl) dW_601 ⟨hf.1, hf.2⟩ (fun b1 v1 q1 H locs hP hD hS => ?_)
    obtain ⟨e1, e2⟩ := pq q1
    subst e1 e2
    have hM1 : iM ((fnX5_reach v ((xs ((i + (1 : Int32))).toNatClampNeg)) ((xs ((i + (2 : Int32))).toNatClampNeg)) ((xs ((i + (3 : Int32))).toNatClampNeg)) ((xs ((i + (4 : Int32))).toNatClampNeg))).2) := ivX5_reach v ((xs ((i + (1 : Int32))).toNatClampNeg)) ((xs ((i + (2 : Int32))).toNatClampNeg)) ((xs ((i + (3 : Int32))).toNatClampNeg)) ((xs ((i + (4 : Int32))).toNatClampNeg)) hM
    refine lv_istore (lv' := [(6, .int (fnX5_reach v ((xs ((i + (1 : Int32))).toNatClampNeg)) ((xs ((i + (2 : Int32))).toNatClampNeg)) ((xs ((i + (3 : Int32))).toNatClampNeg)) ((xs ((i + (4 : Int32))).toNatClampNeg))).1), (5, .int r), (0, .ref b), (1, .ref (ad 0)), (2, .ref (ad2 0)), (3, .ref o), (4, .int i)]) hx hb dW_604 hl (by decide) rfl (fun ls hl => ?_)
    refine lv_aload_n hx hb dW_606 rfl (lv_at hl 4 rfl) ?_
    refine kQi (ex := wRO cI cJ cP ad o u' f') (rest := []) hx hb hml hown hG hl (okX5_thrown l D cI cJ cP ad2 H.size ((fnX5_reach v ((xs ((i + (1 : Int32))).toNatClampNeg)) ((xs ((i + (2 : Int32))).toNatClampNeg)) ((xs ((i + (3 : Int32))).toNatClampNeg)) ((xs ((i + (4 : Int32))).toNatClampNeg))).2) hM1) (cV 0 hG kq6 kq7 kq8 kq9 kq5 hqX5_thrown ⟨by decide, by decide⟩) 0 5 rfl rfl hK hP hD hS (fun _ h => h) hN rfl (fun _ => rfl) rfl rfl (Nat.le_of_ble_eq_true rfl) dW_607 ⟨hf.1, hf.2⟩ (fun t1 z1 q1 H locs hP hD hS => ?_)
    have e1 : t1 = r := q1.trans (RlT hR')
    refine lv_iload hx hb dW_610 (lv_at hl 1 rfl) ?_
    refine lv_icmp_eq (tgt := 617) hx hb dW_612 (by decide) (fun _ => ?_) (fun h9 => absurd e1 h9)
    refine lv_iload hx hb dW_617 (lv_at hl 1 rfl) ?_
    refine lv_if_ne (tgt := 634) hx hb dW_619 (by decide) (fun h9 => ?_) (fun h9 => ?_)
    ·
      refine lv_goto (tgt := 637) hx hb dW_634 (by decide) ?_
      exact kk _ _ _ _ _ _ _ hI' hM1 hR' hP hD hS (lv_sub hl [2, 3, 4, 5, 6] rfl)
    ·
      refine lv_aload_n hx hb dW_622 rfl (lv_at hl 5 rfl) ?_
      refine lv_iconst (v := 0) hx hb dW_623 (by decide) ?_
      refine gl (D := D) (j := 0) (f := f') hx hb hK hP 21 1 (WLo _ _ _) rfl (inL (by decide)) (by decide) dW_624 ?_
      refine lv_iload hx hb dW_625 (lv_at hl 0 rfl) ?_
      refine lv_i2l hx hb dW_627 rfl ?_
      refine lq_eq (tgt := 634) hx hb dW_628 dW_629 (by decide) (fun _ => ?_) (fun h8 => absurd (ha h9) h8)
      refine lv_goto (tgt := 637) hx hb dW_634 (by decide) ?_
      exact kk _ _ _ _ _ _ _ hI' hM1 hR' hP hD hS (lv_sub hl [2, 3, 4, 5, 6] rfl)
  by_cases ho : ((xs ((i + (1 : Int32))).toNatClampNeg)) < 0 ∨ ¬ ((xs ((i + (1 : Int32))).toNatClampNeg)) ≤ 15
  ·
    refine kHi (rest := []) hx hb hml hown hG hl (xL_reach l hT D cI cJ cP ad o H.size u f ((xs ((i + (1 : Int32))).toNatClampNeg)) ((xs ((i + (2 : Int32))).toNatClampNeg)) ((xs ((i + (3 : Int32))).toNatClampNeg)) ((xs ((i + (4 : Int32))).toNatClampNeg)) ho) (cSW 6 hG kq53 kq54 kq55 kq13 hqL_reach ⟨by decide, by decide⟩) hK hP hD hS (fun _ h => h) hN hZ hNc rfl (fun _ => rfl) rfl rfl (Nat.le_of_ble_eq_true rfl) dW_571 ⟨hf.1, hf.2⟩ (fun r1 z1 q1 H locs hP hD hS => ?_)
    obtain rfl : r1 = 1 := q1
    exact cont _ u f H locs hI (reachX1 hR ho) (fun h8 => absurd h8 (by decide)) hP hD hS
  have h0 : ¬ ((xs ((i + (1 : Int32))).toNatClampNeg)) < 0 := fun h => ho (Or.inl h)
  have h1 : ((xs ((i + (1 : Int32))).toNatClampNeg)) ≤ 15 := Decidable.not_not.mp fun h => ho (Or.inr h)
  have g1 := inr (n := 15) (by decide) h0 h1
  by_cases h2 : ((xs ((i + (3 : Int32))).toNatClampNeg)) < 0 ∨ 7 < ((xs ((i + (3 : Int32))).toNatClampNeg)) ∨ ((xs ((i + (2 : Int32))).toNatClampNeg)) < 0 ∨ 4095 < ((xs ((i + (2 : Int32))).toNatClampNeg)) ∨ ((xs ((i + (4 : Int32))).toNatClampNeg)) < 0 ∨ ¬ ((xs ((i + (4 : Int32))).toNatClampNeg)) ≤ 2
  ·
    refine kHi (rest := []) hx hb hml hown hG hl (xL_reach2 l hT D cI cJ cP ad o H.size u f ((xs ((i + (1 : Int32))).toNatClampNeg)) ((xs ((i + (2 : Int32))).toNatClampNeg)) ((xs ((i + (3 : Int32))).toNatClampNeg)) ((xs ((i + (4 : Int32))).toNatClampNeg)) g1 h2) (cSW 6 hG kq53 kq54 kq55 kq13 hqL_reach ⟨by decide, by decide⟩) hK hP hD hS (fun _ h => h) hN hZ hNc rfl (fun _ => rfl) rfl rfl (Nat.le_of_ble_eq_true rfl) dW_571 ⟨hf.1, hf.2⟩ (fun r1 z1 q1 H locs hP hD hS => ?_)
    obtain rfl : r1 = 2 := q1
    exact cont _ u f H locs hI (reachX2 hR h0 h1 h2) (fun h8 => absurd h8 (by decide)) hP hD hS
  ·
    obtain ⟨k1, k2, k3, k4, k5, k6⟩ := no6 h2
    have g2 := inr2 (n := 4095) (by decide) k3 k4
    have g3 := inr2 (n := 7) (by decide) k1 k2
    have g4 := inr (n := 2) (by decide) k5 k6
    refine kHi (rest := []) hx hb hml hown hG hl (okL_reach l D cI cJ cP ad o H.size u f ((xs ((i + (1 : Int32))).toNatClampNeg)) ((xs ((i + (2 : Int32))).toNatClampNeg)) ((xs ((i + (3 : Int32))).toNatClampNeg)) ((xs ((i + (4 : Int32))).toNatClampNeg)) hI g1 g2 g3 g4) (cSW 6 hG kq53 kq54 kq55 kq13 hqL_reach ⟨by decide, by decide⟩) hK hP hD hS (fun _ h => h) hN hZ hNc rfl (fun _ => rfl) rfl rfl (Nat.le_of_ble_eq_true rfl) dW_571 ⟨Nat.le_trans (Nat.le_succ _) hf.1, Nat.le_trans (Nat.le_add_right _ 6) hf.2⟩ (fun r1 z1 q1 H locs hP hD hS => ?_)
    obtain ⟨e1, e2⟩ := pq q1
    subst e1 e2
    refine widW (Nat.le_succ _) (Nat.le_add_right _ 6) ?_
    have r2 := reachR hI hR h0 h1 k1 k2 k3 k4 k5 k6
    exact cont 0 ((fnX4_reach u ((xs ((i + (1 : Int32))).toNatClampNeg)) ((xs ((i + (2 : Int32))).toNatClampNeg)) ((xs ((i + (3 : Int32))).toNatClampNeg)) ((xs ((i + (4 : Int32))).toNatClampNeg))).2) (vp_updL f 0 ((fnX4_reach u ((xs ((i + (1 : Int32))).toNatClampNeg)) ((xs ((i + (2 : Int32))).toNatClampNeg)) ((xs ((i + (3 : Int32))).toNatClampNeg)) ((xs ((i + (4 : Int32))).toNatClampNeg))).1).toInt64) H locs (ivX4_reach u ((xs ((i + (1 : Int32))).toNatClampNeg)) ((xs ((i + (2 : Int32))).toNatClampNeg)) ((xs ((i + (3 : Int32))).toNatClampNeg)) ((xs ((i + (4 : Int32))).toNatClampNeg)) hI g1 g2 g3 g4) r2.2 (fun _ => by rw [r2.1]; exact upd0 f _) hP hD hS
set_option maxRecDepth 100000 in
set_option maxHeartbeats 4000000 in
theorem case5 {p : Program} {l : Launch} {e : Env} {s : State} {m : MethodId} {below : List Frame} {meth : Method} {c : Code} {b L : Nat} {xs : Nat → Int32} {D : va_G} {cI cJ cP : ClassId} {Q : State → Prop} (hx : p.tables.exec = Jvm.exec) (hb : c.code = code) (hml : c.maxLocals = 8) (hown : s.vm.findClass RL = some m.cls) (hG : ∀ w ∈ gG, w.before #[Value.ref b] s = true) (hT : l.stackTraces = false) (hK : va_K D vwCl (tz cI cJ cP) s) (hN : NST s) (hZ : ZX (fun q => s.heap.size ≤ q) s) (hNc : va_Nc eA eI s) (hX : va_X b L xs s s.heap) (hbl : b < s.heap.size) (hL : L ≤ 2560) {cells slots : Nat} (hf : cells + 1 ≤ 1065 ∧ slots + 6 ≤ 16602) {H : Heap} {locs : List Loc} {ls : Array Slot} {ad ad2 : Nat → Nat} {o : Nat} {u : TR} {v : TM} {f : Nat → Int64} {th i : Int32} (hi : 0 ≤ i.toInt ∧ i.toInt + 4 < (L : Int)) (hI : iR u) (hM : iM v) (hR : Rl th u v) (hP : va_P D vwCl (WL cI cJ cP ad o ad2 u f v) H) (hD : va_D (fun q => s.heap.size ≤ q) (WL cI cJ cP ad o ad2 u f v)) (hS : va_S (fun q => s.heap.size ≤ q) s.heap H locs) (hl : lv_has ls 8 [(0, .ref b), (1, .ref (ad 0)), (2, .ref (ad2 0)), (3, .ref o), (4, .int i)]) (kk : ∀ (u' : TR) (v' : TM) (f' : Nat → Int64) (th' : Int32) (H' : Heap) (locs' : List Loc) (ls' : Array Slot), iR u' → iM v' → Rl th' u' v' → va_P D vwCl (WL cI cJ cP ad o ad2 u' f' v') H' → va_D (fun q => s.heap.size ≤ q) (WL cI cJ cP ad o ad2 u' f' v') → va_S (fun q => s.heap.size ≤ q) s.heap H' locs' → lv_has ls' 8 [(0, .ref b), (1, .ref (ad 0)), (2, .ref (ad2 0)), (3, .ref o), (4, .int i)] → W p l e room_1 s m #[Value.ref b] below meth c H' locs' (cells + 1) (slots + 6) Q (F0 m 637 ls' [])) : W p l e room_1 s m #[Value.ref b] below meth c H locs cells slots Q (F0 m 422 ls []) := by
  refine widW (Nat.le_succ _) (Nat.le_add_right _ 6) ?_
  refine lv_aload_n hx hb dW_422 rfl (lv_at hl 1 rfl) ?_
  refine kPv (rest := []) hx hb hml hown hG hl (okX4_go l D cI cJ cP ad H.size u hI) (cV 0 hG kq56 kq57 kq58 kq59 kq60 hqX4_go ⟨by decide, by decide⟩) 0 4 rfl rfl hK hP hD hS (fun _ h => h) hN (WL1 u f v) (fun u9 => (WL1 _ f v).symm) rfl rfl (Nat.le_of_ble_eq_true rfl) dW_423 ⟨hf.1, hf.2⟩ (fun u1 q1 H locs hP hD hS => ?_)
  obtain rfl : u1 = (fnX4_go u) := q1
  have hI1 : iR (fnX4_go u) := ivX4_go u hI
  refine lv_aload_n hx hb dW_426 rfl (lv_at hl 2 rfl) ?_
  refine kQv (ex := wRO cI cJ cP ad o (fnX4_go u) f) (rest := []) hx hb hml hown hG hl (okX5_go l D cI cJ cP ad2 H.size v hM) (cV 0 hG kq61 kq62 kq63 kq64 kq5 hqX5_go ⟨by decide, by decide⟩) 0 5 rfl rfl hK hP hD hS (fun _ h => h) hN rfl (fun _ => rfl) rfl rfl (Nat.le_of_ble_eq_true rfl) dW_427 ⟨hf.1, hf.2⟩ (fun v1 q1 H locs hP hD hS => ?_)
  obtain rfl : v1 = fnX5_go v := q1
  refine lv_goto (tgt := 637) hx hb dW_430 (by decide) ?_
  exact kk _ _ _ _ _ _ _ hI1 (ivX5_go v hM) (goR hR) hP hD hS (lv_sub hl [0, 1, 2, 3, 4] rfl)
set_option maxRecDepth 100000 in
set_option maxHeartbeats 4000000 in
theorem case7 {p : Program} {l : Launch} {e : Env} {s : State} {m : MethodId} {below : List Frame} {meth : Method} {c : Code} {b L : Nat} {xs : Nat → Int32} {D : va_G} {cI cJ cP : ClassId} {Q : State → Prop} (hx : p.tables.exec = Jvm.exec) (hb : c.code = code) (hml : c.maxLocals = 8) (hown : s.vm.findClass RL = some m.cls) (hG : ∀ w ∈ gG, w.before #[Value.ref b] s = true) (hT : l.stackTraces = false) (hK : va_K D vwCl (tz cI cJ cP) s) (hN : NST s) (hZ : ZX (fun q => s.heap.size ≤ q) s) (hNc : va_Nc eA eI s) (hX : va_X b L xs s s.heap) (hbl : b < s.heap.size) (hL : L ≤ 2560) {cells slots : Nat} (hf : cells + 1 ≤ 1065 ∧ slots + 6 ≤ 16602) {H : Heap} {locs : List Loc} {ls : Array Slot} {ad ad2 : Nat → Nat} {o : Nat} {u : TR} {v : TM} {f : Nat → Int64} {th i : Int32} (hi : 0 ≤ i.toInt ∧ i.toInt + 4 < (L : Int)) (hI : iR u) (hM : iM v) (hR : Rl th u v) (hP : va_P D vwCl (WL cI cJ cP ad o ad2 u f v) H) (hD : va_D (fun q => s.heap.size ≤ q) (WL cI cJ cP ad o ad2 u f v)) (hS : va_S (fun q => s.heap.size ≤ q) s.heap H locs) (hl : lv_has ls 8 [(0, .ref b), (1, .ref (ad 0)), (2, .ref (ad2 0)), (3, .ref o), (4, .int i)]) (kk : ∀ (u' : TR) (v' : TM) (f' : Nat → Int64) (th' : Int32) (H' : Heap) (locs' : List Loc) (ls' : Array Slot), iR u' → iM v' → Rl th' u' v' → va_P D vwCl (WL cI cJ cP ad o ad2 u' f' v') H' → va_D (fun q => s.heap.size ≤ q) (WL cI cJ cP ad o ad2 u' f' v') → va_S (fun q => s.heap.size ≤ q) s.heap H' locs' → lv_has ls' 8 [(0, .ref b), (1, .ref (ad 0)), (2, .ref (ad2 0)), (3, .ref o), (4, .int i)] → W p l e room_1 s m #[Value.ref b] below meth c H' locs' (cells + 1) (slots + 6) Q (F0 m 637 ls' [])) : W p l e room_1 s m #[Value.ref b] below meth c H locs cells slots Q (F0 m 469 ls []) := by
  refine widW (Nat.le_succ _) (Nat.le_add_right _ 6) ?_
  refine lv_aload_n hx hb dW_469 rfl (lv_at hl 1 rfl) ?_
  refine lv_aload_n hx hb dW_470 rfl (lv_at hl 0 rfl) ?_
  refine lv_iload hx hb dW_471 (lv_at hl 4 rfl) ?_
  refine lv_iconst (v := 1) hx hb dW_473 (by decide) ?_
  refine lv_iadd hx hb dW_474 ?_
  refine va_sld hx hb hX hbl (Nat.not_le.mpr hbl) hS (sc hL hi 1 (by decide)) dW_475 ?_
  refine kPi (rest := []) hx hb hml hown hG hl (okX4_state l D cI cJ cP ad H.size u ((xs ((i + (1 : Int32))).toNatClampNeg)) hI) (cV 1 hG kq65 kq66 kq67 kq68 kq60 hqX4_state ⟨by decide, by decide⟩) 0 4 rfl rfl hK hP hD hS (fun _ h => h) hN (WL1 u f v) (fun u9 => (WL1 _ f v).symm) rfl rfl (Nat.le_of_ble_eq_true rfl) dW_476 ⟨hf.1, hf.2⟩ (fun b1 z1 q1 H locs hP hD hS => ?_)
  refine lv_aload_n hx hb dW_479 rfl (lv_at hl 2 rfl) ?_
  refine lv_aload_n hx hb dW_480 rfl (lv_at hl 0 rfl) ?_
  refine lv_iload hx hb dW_481 (lv_at hl 4 rfl) ?_
  refine lv_iconst (v := 1) hx hb dW_483 (by decide) ?_
  refine lv_iadd hx hb dW_484 ?_
  refine va_sld hx hb hX hbl (Nat.not_le.mpr hbl) hS (sc hL hi 1 (by decide)) dW_485 ?_
  refine kQi (ex := wRO cI cJ cP ad o u f) (rest := [.int b1]) hx hb hml hown hG hl (okX5_state l D cI cJ cP ad2 H.size v ((xs ((i + (1 : Int32))).toNatClampNeg)) hM) (cV 1 hG kq69 kq70 kq71 kq72 kq5 hqX5_state ⟨by decide, by decide⟩) 0 5 rfl rfl hK hP hD hS (fun _ h => h) hN rfl (fun _ => rfl) rfl rfl (Nat.le_of_ble_eq_true rfl) dW_486 ⟨hf.1, hf.2⟩ (fun b2 v2 q2 H locs hP hD hS => ?_)
  obtain ⟨e1, e2⟩ := pq q2
  subst e1 e2
  have r2 := stateR (a := ((xs ((i + (1 : Int32))).toNatClampNeg))) hR
  refine lv_icmp_eq (tgt := 637) hx hb dW_489 (by decide) (fun _ => ?_) (fun h9 => absurd (q1.trans r2.1.symm) h9)
  exact kk _ _ _ _ _ _ _ hI (ivX5_state v ((xs ((i + (1 : Int32))).toNatClampNeg)) hM) r2.2 hP hD hS (lv_sub hl [0, 1, 2, 3, 4] rfl)
set_option maxRecDepth 100000 in
set_option maxHeartbeats 4000000 in
theorem case8 {p : Program} {l : Launch} {e : Env} {s : State} {m : MethodId} {below : List Frame} {meth : Method} {c : Code} {b L : Nat} {xs : Nat → Int32} {D : va_G} {cI cJ cP : ClassId} {Q : State → Prop} (hx : p.tables.exec = Jvm.exec) (hb : c.code = code) (hml : c.maxLocals = 8) (hown : s.vm.findClass RL = some m.cls) (hG : ∀ w ∈ gG, w.before #[Value.ref b] s = true) (hT : l.stackTraces = false) (hK : va_K D vwCl (tz cI cJ cP) s) (hN : NST s) (hZ : ZX (fun q => s.heap.size ≤ q) s) (hNc : va_Nc eA eI s) (hX : va_X b L xs s s.heap) (hbl : b < s.heap.size) (hL : L ≤ 2560) {cells slots : Nat} (hf : cells + 1 ≤ 1065 ∧ slots + 6 ≤ 16602) {H : Heap} {locs : List Loc} {ls : Array Slot} {ad ad2 : Nat → Nat} {o : Nat} {u : TR} {v : TM} {f : Nat → Int64} {th i : Int32} (hi : 0 ≤ i.toInt ∧ i.toInt + 4 < (L : Int)) (hI : iR u) (hM : iM v) (hR : Rl th u v) (hP : va_P D vwCl (WL cI cJ cP ad o ad2 u f v) H) (hD : va_D (fun q => s.heap.size ≤ q) (WL cI cJ cP ad o ad2 u f v)) (hS : va_S (fun q => s.heap.size ≤ q) s.heap H locs) (hl : lv_has ls 8 [(0, .ref b), (1, .ref (ad 0)), (2, .ref (ad2 0)), (3, .ref o), (4, .int i)]) (kk : ∀ (u' : TR) (v' : TM) (f' : Nat → Int64) (th' : Int32) (H' : Heap) (locs' : List Loc) (ls' : Array Slot), iR u' → iM v' → Rl th' u' v' → va_P D vwCl (WL cI cJ cP ad o ad2 u' f' v') H' → va_D (fun q => s.heap.size ≤ q) (WL cI cJ cP ad o ad2 u' f' v') → va_S (fun q => s.heap.size ≤ q) s.heap H' locs' → lv_has ls' 8 [(0, .ref b), (1, .ref (ad 0)), (2, .ref (ad2 0)), (3, .ref o), (4, .int i)] → W p l e room_1 s m #[Value.ref b] below meth c H' locs' (cells + 1) (slots + 6) Q (F0 m 637 ls' [])) : W p l e room_1 s m #[Value.ref b] below meth c H locs cells slots Q (F0 m 494 ls []) := by
  refine widW (Nat.le_succ _) (Nat.le_add_right _ 6) ?_
  refine lv_aload_n hx hb dW_494 rfl (lv_at hl 1 rfl) ?_
  refine kPl (rest := []) hx hb hml hown hG hl (okX4_saved l D cI cJ cP ad H.size u hI) (cV 0 hG kq73 kq74 kq75 kq76 kq60 hqX4_saved ⟨by decide, by decide⟩) 0 4 rfl rfl hK hP hD hS (fun _ h => h) hN (WL1 u f v) (fun u9 => (WL1 _ f v).symm) rfl rfl (Nat.le_of_ble_eq_true rfl) dW_495 ⟨hf.1, hf.2⟩ (fun b1 z1 q1 H locs hP hD hS => ?_)
  refine lv_aload_n hx hb dW_498 rfl (lv_at hl 2 rfl) ?_
  refine kQl (ex := wRO cI cJ cP ad o u f) (rest := [.long b1]) hx hb hml hown hG hl (okX5_saved l D cI cJ cP ad2 H.size v hM) (cV 0 hG kq77 kq78 kq79 kq80 kq5 hqX5_saved ⟨by decide, by decide⟩) 0 5 rfl rfl hK hP hD hS (fun _ h => h) hN rfl (fun _ => rfl) rfl rfl (Nat.le_of_ble_eq_true rfl) dW_499 ⟨hf.1, hf.2⟩ (fun b2 v2 q2 H locs hP hD hS => ?_)
  obtain ⟨e1, e2⟩ := pq q2
  subst e1 e2
  have r2 := savedR hR
  refine lq_eq (tgt := 637) hx hb dW_502 dW_503 (by decide) (fun _ => ?_) (fun h9 => absurd (q1.trans r2.1.symm) h9)
  exact kk _ _ _ _ _ _ _ hI (ivX5_saved v hM) r2.2 hP hD hS (lv_sub hl [0, 1, 2, 3, 4] rfl)
set_option maxRecDepth 100000 in
set_option maxHeartbeats 4000000 in
theorem case9 {p : Program} {l : Launch} {e : Env} {s : State} {m : MethodId} {below : List Frame} {meth : Method} {c : Code} {b L : Nat} {xs : Nat → Int32} {D : va_G} {cI cJ cP : ClassId} {Q : State → Prop} (hx : p.tables.exec = Jvm.exec) (hb : c.code = code) (hml : c.maxLocals = 8) (hown : s.vm.findClass RL = some m.cls) (hG : ∀ w ∈ gG, w.before #[Value.ref b] s = true) (hT : l.stackTraces = false) (hK : va_K D vwCl (tz cI cJ cP) s) (hN : NST s) (hZ : ZX (fun q => s.heap.size ≤ q) s) (hNc : va_Nc eA eI s) (hX : va_X b L xs s s.heap) (hbl : b < s.heap.size) (hL : L ≤ 2560) {cells slots : Nat} (hf : cells + 1 ≤ 1065 ∧ slots + 6 ≤ 16602) {H : Heap} {locs : List Loc} {ls : Array Slot} {ad ad2 : Nat → Nat} {o : Nat} {u : TR} {v : TM} {f : Nat → Int64} {th i : Int32} (hi : 0 ≤ i.toInt ∧ i.toInt + 4 < (L : Int)) (hI : iR u) (hM : iM v) (hR : Rl th u v) (hP : va_P D vwCl (WL cI cJ cP ad o ad2 u f v) H) (hD : va_D (fun q => s.heap.size ≤ q) (WL cI cJ cP ad o ad2 u f v)) (hS : va_S (fun q => s.heap.size ≤ q) s.heap H locs) (hl : lv_has ls 8 [(0, .ref b), (1, .ref (ad 0)), (2, .ref (ad2 0)), (3, .ref o), (4, .int i)]) (kk : ∀ (u' : TR) (v' : TM) (f' : Nat → Int64) (th' : Int32) (H' : Heap) (locs' : List Loc) (ls' : Array Slot), iR u' → iM v' → Rl th' u' v' → va_P D vwCl (WL cI cJ cP ad o ad2 u' f' v') H' → va_D (fun q => s.heap.size ≤ q) (WL cI cJ cP ad o ad2 u' f' v') → va_S (fun q => s.heap.size ≤ q) s.heap H' locs' → lv_has ls' 8 [(0, .ref b), (1, .ref (ad 0)), (2, .ref (ad2 0)), (3, .ref o), (4, .int i)] → W p l e room_1 s m #[Value.ref b] below meth c H' locs' (cells + 1) (slots + 6) Q (F0 m 637 ls' [])) : W p l e room_1 s m #[Value.ref b] below meth c H locs cells slots Q (F0 m 508 ls []) := by
  refine widW (Nat.le_succ _) (Nat.le_add_right _ 6) ?_
  refine lv_aload_n hx hb dW_508 rfl (lv_at hl 1 rfl) ?_
  refine lv_aload_n hx hb dW_509 rfl (lv_at hl 0 rfl) ?_
  refine lv_iload hx hb dW_510 (lv_at hl 4 rfl) ?_
  refine lv_iconst (v := 1) hx hb dW_512 (by decide) ?_
  refine lv_iadd hx hb dW_513 ?_
  refine va_sld hx hb hX hbl (Nat.not_le.mpr hbl) hS (sc hL hi 1 (by decide)) dW_514 ?_
  refine lv_aload_n hx hb dW_515 rfl (lv_at hl 0 rfl) ?_
  refine lv_iload hx hb dW_516 (lv_at hl 4 rfl) ?_
  refine lv_iconst (v := 2) hx hb dW_518 (by decide) ?_
  refine lv_iadd hx hb dW_519 ?_
  refine va_sld hx hb hX hbl (Nat.not_le.mpr hbl) hS (sc hL hi 2 (by decide)) dW_520 ?_
  refine kPi (rest := []) hx hb hml hown hG hl (okX4_copy l D cI cJ cP ad H.size u ((xs ((i + (1 : Int32))).toNatClampNeg)) ((xs ((i + (2 : Int32))).toNatClampNeg)) hI) (cV 2 hG kq81 kq82 kq83 kq84 kq60 hqX4_copy ⟨by decide, by decide⟩) 0 4 rfl rfl hK hP hD hS (fun _ h => h) hN (WL1 u f v) (fun u9 => (WL1 _ f v).symm) rfl rfl (Nat.le_of_ble_eq_true rfl) dW_521 ⟨hf.1, hf.2⟩ (fun b1 z1 q1 H locs hP hD hS => ?_)
  refine lv_aload_n hx hb dW_524 rfl (lv_at hl 2 rfl) ?_
  refine lv_aload_n hx hb dW_525 rfl (lv_at hl 0 rfl) ?_
  refine lv_iload hx hb dW_526 (lv_at hl 4 rfl) ?_
  refine lv_iconst (v := 1) hx hb dW_528 (by decide) ?_
  refine lv_iadd hx hb dW_529 ?_
  refine va_sld hx hb hX hbl (Nat.not_le.mpr hbl) hS (sc hL hi 1 (by decide)) dW_530 ?_
  refine lv_aload_n hx hb dW_531 rfl (lv_at hl 0 rfl) ?_
  refine lv_iload hx hb dW_532 (lv_at hl 4 rfl) ?_
  refine lv_iconst (v := 2) hx hb dW_534 (by decide) ?_
  refine lv_iadd hx hb dW_535 ?_
  refine va_sld hx hb hX hbl (Nat.not_le.mpr hbl) hS (sc hL hi 2 (by decide)) dW_536 ?_
  refine kQi (ex := wRO cI cJ cP ad o u f) (rest := [.int b1]) hx hb hml hown hG hl (okX5_copy l D cI cJ cP ad2 H.size v ((xs ((i + (1 : Int32))).toNatClampNeg)) ((xs ((i + (2 : Int32))).toNatClampNeg)) hM) (cV 2 hG kq85 kq86 kq87 kq88 kq5 hqX5_copy ⟨by decide, by decide⟩) 0 5 rfl rfl hK hP hD hS (fun _ h => h) hN rfl (fun _ => rfl) rfl rfl (Nat.le_of_ble_eq_true rfl) dW_537 ⟨hf.1, hf.2⟩ (fun b2 v2 q2 H locs hP hD hS => ?_)
  obtain ⟨e1, e2⟩ := pq q2
  subst e1 e2
  have r2 := copyR (a := ((xs ((i + (1 : Int32))).toNatClampNeg))) (w := ((xs ((i + (2 : Int32))).toNatClampNeg))) hR
  refine lv_icmp_eq (tgt := 637) hx hb dW_540 (by decide) (fun _ => ?_) (fun h9 => absurd (q1.trans r2.1.symm) h9)
  exact kk _ _ _ _ _ _ _ hI (ivX5_copy v ((xs ((i + (1 : Int32))).toNatClampNeg)) ((xs ((i + (2 : Int32))).toNatClampNeg)) hM) r2.2 hP hD hS (lv_sub hl [0, 1, 2, 3, 4] rfl)
