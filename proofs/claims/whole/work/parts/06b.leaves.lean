def fnX1_become (x : TD) (a0 : Int64) (a1 : Int64) : TD :=
  ((if (a0 &&& (34359738368 : Int64)) = (0 : Int64) then (0 : Int32) else 1), (if (a0 &&& (17179869184 : Int64)) = (0 : Int64) then (0 : Int32) else 1), ((a0).toInt32 &&& (4095 : Int32)), (((a0 >>> (((12 : Int32)).toInt64 &&& 63))).toInt32 &&& (4095 : Int32)), ((a1).toInt32 &&& (7 : Int32)), (((a1 >>> (((3 : Int32)).toInt64 &&& 63))).toInt32 &&& (7 : Int32)), (((a1 >>> (((6 : Int32)).toInt64 &&& 63))).toInt32 &&& (7 : Int32)), (if (a1 &&& (512 : Int64)) = (0 : Int64) then (0 : Int32) else 1), (if (a1 &&& (1024 : Int64)) = (0 : Int64) then (0 : Int32) else 1), (if (a1 &&& (2048 : Int64)) = (0 : Int64) then (0 : Int32) else 1), (((a1 >>> (((12 : Int32)).toInt64 &&& 63))).toInt32 &&& (4095 : Int32)))
abbrev ivX1_becomeP (z : TD) : Prop := iD z
set_option maxRecDepth 100000 in
set_option maxHeartbeats 4000000 in
theorem ivX1_become (x : TD) (a0 : Int64) (a1 : Int64) (hI : iD x) : ivX1_becomeP (fnX1_become x a0 a1) := by
  unfold fnX1_become
  try dsimp only
  exact ⟨(mk3 _), (mk3 _)⟩
set_option maxRecDepth 100000 in
set_option maxHeartbeats 4000000 in
theorem okX1_become (l : Launch) (D : va_G) (cI cJ cP : ClassId) (b0 : Nat) (sz : Nat) (x : TD) (a0 : Int64) (a1 : Int64) (hI : iD x) : Met l yX1_become (Cond.code yX1_become cX1_become 5 none :: gG) { frames := 0, cells := 0, slots := 0, locals := 0 } (va_Pc [.ref (b0), .long a0, .long a1] (PRE D (tz cI cJ cP) sz (wD b0 x))) (va_Qv (fun (u : TD) => u = fnX1_become x a0 a1) (AT D (tz cI cJ cP) (va_A (wD b0 x) sz) (fun (u : TD) => (wD b0 u))) (va_A (wD b0 x) sz)) 0 0 (va_A (wD b0 x) sz) := by
  refine mo (QA := fun A => va_Qv (fun (u : TD) => u = fnX1_become x a0 a1) (AT D (tz cI cJ cP) A (fun (u : TD) => (wD b0 u))) A) (by decide) (Nat.le_of_ble_eq_true rfl) ?_
  intro p e s m below meth c A ls H hx hb hr hml hown hG hlocks hnm hA hS hP hK hD hl hN
  have hown : s.vm.findClass RX1 = some m.cls := hown
  have hl : lv_has ls 5 [(0, .ref (b0)), (1, .long a0), (3, .long a1)] := hl
  refine lv_aload_n hx hb dX1_become_0 rfl (lv_at hl 0 rfl) ?_
  refine lv_lload_n hx hb dX1_become_1 rfl (lv_at hl 1 rfl) ?_
  refine lv_ldc2 (v := 34359738368) hx hb hown (hG _ kw8) dX1_become_2 ?_
  refine lv_land hx hb dX1_become_5 ?_
  refine lv_lconst (v := 0) hx hb dX1_become_6 (by decide) ?_
  refine lq_b hx hb dX1_become_7 dX1_become_8 dX1_become_11 dX1_become_12 dX1_become_15 ?_
  refine pu (D := D) (ci := 1) (v := .int ((if (a0 &&& (34359738368 : Int64)) = (0 : Int64) then (0 : Int32) else 1))) (ty := .boolean) (W' := (wD b0 ((if (a0 &&& (34359738368 : Int64)) = (0 : Int64) then (0 : Int32) else 1), x.2.1, x.2.2.1, x.2.2.2.1, x.2.2.2.2.1, x.2.2.2.2.2.1, x.2.2.2.2.2.2.1, x.2.2.2.2.2.2.2.1, x.2.2.2.2.2.2.2.2.1, x.2.2.2.2.2.2.2.2.2.1, x.2.2.2.2.2.2.2.2.2.2))) hx hb hG inX1 tyX1 tyokX1 nmX1 hown hK hP hD hS 0 rfl rfl 0 (by decide) (hG _ kw9) (fun _ h9 => h9) rfl (by decide +kernel) nb1 nb2 (Nat.le_of_ble_eq_true rfl) dX1_become_16 rfl (fun H locs hP hD hS => ?_)
  refine lv_aload_n hx hb dX1_become_19 rfl (lv_at hl 0 rfl) ?_
  refine lv_lload_n hx hb dX1_become_20 rfl (lv_at hl 1 rfl) ?_
  refine lv_ldc2 (v := 17179869184) hx hb hown (hG _ kw10) dX1_become_21 ?_
  refine lv_land hx hb dX1_become_24 ?_
  refine lv_lconst (v := 0) hx hb dX1_become_25 (by decide) ?_
  refine lq_b hx hb dX1_become_26 dX1_become_27 dX1_become_30 dX1_become_31 dX1_become_34 ?_
  refine pu (D := D) (ci := 1) (v := .int ((if (a0 &&& (17179869184 : Int64)) = (0 : Int64) then (0 : Int32) else 1))) (ty := .boolean) (W' := (wD b0 ((if (a0 &&& (34359738368 : Int64)) = (0 : Int64) then (0 : Int32) else 1), (if (a0 &&& (17179869184 : Int64)) = (0 : Int64) then (0 : Int32) else 1), x.2.2.1, x.2.2.2.1, x.2.2.2.2.1, x.2.2.2.2.2.1, x.2.2.2.2.2.2.1, x.2.2.2.2.2.2.2.1, x.2.2.2.2.2.2.2.2.1, x.2.2.2.2.2.2.2.2.2.1, x.2.2.2.2.2.2.2.2.2.2))) hx hb hG inX1 tyX1 tyokX1 nmX1 hown hK hP hD hS 0 rfl rfl 1 (by decide) (hG _ kw11) (fun _ h9 => h9) rfl (by decide +kernel) nb1 nb2 (Nat.le_of_ble_eq_true rfl) dX1_become_35 rfl (fun H locs hP hD hS => ?_)
  refine lv_aload_n hx hb dX1_become_38 rfl (lv_at hl 0 rfl) ?_
  refine lv_lload_n hx hb dX1_become_39 rfl (lv_at hl 1 rfl) ?_
  refine lv_l2i hx hb dX1_become_40 rfl ?_
  refine lv_sipush (v := 4095) hx hb dX1_become_41 (by decide) ?_
  refine lv_iand hx hb dX1_become_44 ?_
  refine pu (D := D) (ci := 1) (v := .int (((a0).toInt32 &&& (4095 : Int32)))) (ty := .int) (W' := (wD b0 ((if (a0 &&& (34359738368 : Int64)) = (0 : Int64) then (0 : Int32) else 1), (if (a0 &&& (17179869184 : Int64)) = (0 : Int64) then (0 : Int32) else 1), ((a0).toInt32 &&& (4095 : Int32)), x.2.2.2.1, x.2.2.2.2.1, x.2.2.2.2.2.1, x.2.2.2.2.2.2.1, x.2.2.2.2.2.2.2.1, x.2.2.2.2.2.2.2.2.1, x.2.2.2.2.2.2.2.2.2.1, x.2.2.2.2.2.2.2.2.2.2))) hx hb hG inX1 tyX1 tyokX1 nmX1 hown hK hP hD hS 0 rfl rfl 2 (by decide) (hG _ kw12) (fun _ h9 => h9) rfl (by decide +kernel) rfl rfl (Nat.le_of_ble_eq_true rfl) dX1_become_45 rfl (fun H locs hP hD hS => ?_)
  refine lv_aload_n hx hb dX1_become_48 rfl (lv_at hl 0 rfl) ?_
  refine lv_lload_n hx hb dX1_become_49 rfl (lv_at hl 1 rfl) ?_
  refine lv_bipush (v := 12) hx hb dX1_become_50 (by decide) ?_
  refine lv_lshr hx hb dX1_become_52 rfl ?_
  refine lv_l2i hx hb dX1_become_53 rfl ?_
  refine lv_sipush (v := 4095) hx hb dX1_become_54 (by decide) ?_
  refine lv_iand hx hb dX1_become_57 ?_
  refine pu (D := D) (ci := 1) (v := .int ((((a0 >>> (((12 : Int32)).toInt64 &&& 63))).toInt32 &&& (4095 : Int32)))) (ty := .int) (W' := (wD b0 ((if (a0 &&& (34359738368 : Int64)) = (0 : Int64) then (0 : Int32) else 1), (if (a0 &&& (17179869184 : Int64)) = (0 : Int64) then (0 : Int32) else 1), ((a0).toInt32 &&& (4095 : Int32)), (((a0 >>> (((12 : Int32)).toInt64 &&& 63))).toInt32 &&& (4095 : Int32)), x.2.2.2.2.1, x.2.2.2.2.2.1, x.2.2.2.2.2.2.1, x.2.2.2.2.2.2.2.1, x.2.2.2.2.2.2.2.2.1, x.2.2.2.2.2.2.2.2.2.1, x.2.2.2.2.2.2.2.2.2.2))) hx hb hG inX1 tyX1 tyokX1 nmX1 hown hK hP hD hS 0 rfl rfl 3 (by decide) (hG _ kw13) (fun _ h9 => h9) rfl (by decide +kernel) rfl rfl (Nat.le_of_ble_eq_true rfl) dX1_become_58 rfl (fun H locs hP hD hS => ?_)
  refine lv_aload_n hx hb dX1_become_61 rfl (lv_at hl 0 rfl) ?_
  refine lv_lload_n hx hb dX1_become_62 rfl (lv_at hl 2 rfl) ?_
  refine lv_l2i hx hb dX1_become_63 rfl ?_
  refine lv_bipush (v := 7) hx hb dX1_become_64 (by decide) ?_
  refine lv_iand hx hb dX1_become_66 ?_
  refine pu (D := D) (ci := 1) (v := .int (((a1).toInt32 &&& (7 : Int32)))) (ty := .int) (W' := (wD b0 ((if (a0 &&& (34359738368 : Int64)) = (0 : Int64) then (0 : Int32) else 1), (if (a0 &&& (17179869184 : Int64)) = (0 : Int64) then (0 : Int32) else 1), ((a0).toInt32 &&& (4095 : Int32)), (((a0 >>> (((12 : Int32)).toInt64 &&& 63))).toInt32 &&& (4095 : Int32)), ((a1).toInt32 &&& (7 : Int32)), x.2.2.2.2.2.1, x.2.2.2.2.2.2.1, x.2.2.2.2.2.2.2.1, x.2.2.2.2.2.2.2.2.1, x.2.2.2.2.2.2.2.2.2.1, x.2.2.2.2.2.2.2.2.2.2))) hx hb hG inX1 tyX1 tyokX1 nmX1 hown hK hP hD hS 0 rfl rfl 4 (by decide) (hG _ kw14) (fun _ h9 => h9) rfl (by decide +kernel) rfl rfl (Nat.le_of_ble_eq_true rfl) dX1_become_67 rfl (fun H locs hP hD hS => ?_)
  refine lv_aload_n hx hb dX1_become_70 rfl (lv_at hl 0 rfl) ?_
  refine lv_lload_n hx hb dX1_become_71 rfl (lv_at hl 2 rfl) ?_
  refine lv_iconst (v := 3) hx hb dX1_become_72 (by decide) ?_
  refine lv_lshr hx hb dX1_become_73 rfl ?_
  refine lv_l2i hx hb dX1_become_74 rfl ?_
  refine lv_bipush (v := 7) hx hb dX1_become_75 (by decide) ?_
  refine lv_iand hx hb dX1_become_77 ?_
  refine pu (D := D) (ci := 1) (v := .int ((((a1 >>> (((3 : Int32)).toInt64 &&& 63))).toInt32 &&& (7 : Int32)))) (ty := .int) (W' := (wD b0 ((if (a0 &&& (34359738368 : Int64)) = (0 : Int64) then (0 : Int32) else 1), (if (a0 &&& (17179869184 : Int64)) = (0 : Int64) then (0 : Int32) else 1), ((a0).toInt32 &&& (4095 : Int32)), (((a0 >>> (((12 : Int32)).toInt64 &&& 63))).toInt32 &&& (4095 : Int32)), ((a1).toInt32 &&& (7 : Int32)), (((a1 >>> (((3 : Int32)).toInt64 &&& 63))).toInt32 &&& (7 : Int32)), x.2.2.2.2.2.2.1, x.2.2.2.2.2.2.2.1, x.2.2.2.2.2.2.2.2.1, x.2.2.2.2.2.2.2.2.2.1, x.2.2.2.2.2.2.2.2.2.2))) hx hb hG inX1 tyX1 tyokX1 nmX1 hown hK hP hD hS 0 rfl rfl 5 (by decide) (hG _ kw15) (fun _ h9 => h9) rfl (by decide +kernel) rfl rfl (Nat.le_of_ble_eq_true rfl) dX1_become_78 rfl (fun H locs hP hD hS => ?_)
  refine lv_aload_n hx hb dX1_become_81 rfl (lv_at hl 0 rfl) ?_
  refine lv_lload_n hx hb dX1_become_82 rfl (lv_at hl 2 rfl) ?_
  refine lv_bipush (v := 6) hx hb dX1_become_83 (by decide) ?_
  refine lv_lshr hx hb dX1_become_85 rfl ?_
  refine lv_l2i hx hb dX1_become_86 rfl ?_
  refine lv_bipush (v := 7) hx hb dX1_become_87 (by decide) ?_
  refine lv_iand hx hb dX1_become_89 ?_
  refine pu (D := D) (ci := 1) (v := .int ((((a1 >>> (((6 : Int32)).toInt64 &&& 63))).toInt32 &&& (7 : Int32)))) (ty := .int) (W' := (wD b0 ((if (a0 &&& (34359738368 : Int64)) = (0 : Int64) then (0 : Int32) else 1), (if (a0 &&& (17179869184 : Int64)) = (0 : Int64) then (0 : Int32) else 1), ((a0).toInt32 &&& (4095 : Int32)), (((a0 >>> (((12 : Int32)).toInt64 &&& 63))).toInt32 &&& (4095 : Int32)), ((a1).toInt32 &&& (7 : Int32)), (((a1 >>> (((3 : Int32)).toInt64 &&& 63))).toInt32 &&& (7 : Int32)), (((a1 >>> (((6 : Int32)).toInt64 &&& 63))).toInt32 &&& (7 : Int32)), x.2.2.2.2.2.2.2.1, x.2.2.2.2.2.2.2.2.1, x.2.2.2.2.2.2.2.2.2.1, x.2.2.2.2.2.2.2.2.2.2))) hx hb hG inX1 tyX1 tyokX1 nmX1 hown hK hP hD hS 0 rfl rfl 6 (by decide) (hG _ kw16) (fun _ h9 => h9) rfl (by decide +kernel) rfl rfl (Nat.le_of_ble_eq_true rfl) dX1_become_90 rfl (fun H locs hP hD hS => ?_)
  refine lv_aload_n hx hb dX1_become_93 rfl (lv_at hl 0 rfl) ?_
  refine lv_lload_n hx hb dX1_become_94 rfl (lv_at hl 2 rfl) ?_
  refine lv_ldc2 (v := 512) hx hb hown (hG _ kw17) dX1_become_95 ?_
  refine lv_land hx hb dX1_become_98 ?_
  refine lv_lconst (v := 0) hx hb dX1_become_99 (by decide) ?_
  refine lq_b hx hb dX1_become_100 dX1_become_101 dX1_become_104 dX1_become_105 dX1_become_108 ?_
  refine pu (D := D) (ci := 1) (v := .int ((if (a1 &&& (512 : Int64)) = (0 : Int64) then (0 : Int32) else 1))) (ty := .boolean) (W' := (wD b0 ((if (a0 &&& (34359738368 : Int64)) = (0 : Int64) then (0 : Int32) else 1), (if (a0 &&& (17179869184 : Int64)) = (0 : Int64) then (0 : Int32) else 1), ((a0).toInt32 &&& (4095 : Int32)), (((a0 >>> (((12 : Int32)).toInt64 &&& 63))).toInt32 &&& (4095 : Int32)), ((a1).toInt32 &&& (7 : Int32)), (((a1 >>> (((3 : Int32)).toInt64 &&& 63))).toInt32 &&& (7 : Int32)), (((a1 >>> (((6 : Int32)).toInt64 &&& 63))).toInt32 &&& (7 : Int32)), (if (a1 &&& (512 : Int64)) = (0 : Int64) then (0 : Int32) else 1), x.2.2.2.2.2.2.2.2.1, x.2.2.2.2.2.2.2.2.2.1, x.2.2.2.2.2.2.2.2.2.2))) hx hb hG inX1 tyX1 tyokX1 nmX1 hown hK hP hD hS 0 rfl rfl 7 (by decide) (hG _ kw18) (fun _ h9 => h9) rfl (by decide +kernel) nb1 nb2 (Nat.le_of_ble_eq_true rfl) dX1_become_109 rfl (fun H locs hP hD hS => ?_)
  refine lv_aload_n hx hb dX1_become_112 rfl (lv_at hl 0 rfl) ?_
  refine lv_lload_n hx hb dX1_become_113 rfl (lv_at hl 2 rfl) ?_
  refine lv_ldc2 (v := 1024) hx hb hown (hG _ kw19) dX1_become_114 ?_
  refine lv_land hx hb dX1_become_117 ?_
  refine lv_lconst (v := 0) hx hb dX1_become_118 (by decide) ?_
  refine lq_b hx hb dX1_become_119 dX1_become_120 dX1_become_123 dX1_become_124 dX1_become_127 ?_
  refine pu (D := D) (ci := 1) (v := .int ((if (a1 &&& (1024 : Int64)) = (0 : Int64) then (0 : Int32) else 1))) (ty := .boolean) (W' := (wD b0 ((if (a0 &&& (34359738368 : Int64)) = (0 : Int64) then (0 : Int32) else 1), (if (a0 &&& (17179869184 : Int64)) = (0 : Int64) then (0 : Int32) else 1), ((a0).toInt32 &&& (4095 : Int32)), (((a0 >>> (((12 : Int32)).toInt64 &&& 63))).toInt32 &&& (4095 : Int32)), ((a1).toInt32 &&& (7 : Int32)), (((a1 >>> (((3 : Int32)).toInt64 &&& 63))).toInt32 &&& (7 : Int32)), (((a1 >>> (((6 : Int32)).toInt64 &&& 63))).toInt32 &&& (7 : Int32)), (if (a1 &&& (512 : Int64)) = (0 : Int64) then (0 : Int32) else 1), (if (a1 &&& (1024 : Int64)) = (0 : Int64) then (0 : Int32) else 1), x.2.2.2.2.2.2.2.2.2.1, x.2.2.2.2.2.2.2.2.2.2))) hx hb hG inX1 tyX1 tyokX1 nmX1 hown hK hP hD hS 0 rfl rfl 8 (by decide) (hG _ kw20) (fun _ h9 => h9) rfl (by decide +kernel) nb1 nb2 (Nat.le_of_ble_eq_true rfl) dX1_become_128 rfl (fun H locs hP hD hS => ?_)
  refine lv_aload_n hx hb dX1_become_131 rfl (lv_at hl 0 rfl) ?_
  refine lv_lload_n hx hb dX1_become_132 rfl (lv_at hl 2 rfl) ?_
  refine lv_ldc2 (v := 2048) hx hb hown (hG _ kw21) dX1_become_133 ?_
  refine lv_land hx hb dX1_become_136 ?_
  refine lv_lconst (v := 0) hx hb dX1_become_137 (by decide) ?_
  refine lq_b hx hb dX1_become_138 dX1_become_139 dX1_become_142 dX1_become_143 dX1_become_146 ?_
  refine pu (D := D) (ci := 1) (v := .int ((if (a1 &&& (2048 : Int64)) = (0 : Int64) then (0 : Int32) else 1))) (ty := .boolean) (W' := (wD b0 ((if (a0 &&& (34359738368 : Int64)) = (0 : Int64) then (0 : Int32) else 1), (if (a0 &&& (17179869184 : Int64)) = (0 : Int64) then (0 : Int32) else 1), ((a0).toInt32 &&& (4095 : Int32)), (((a0 >>> (((12 : Int32)).toInt64 &&& 63))).toInt32 &&& (4095 : Int32)), ((a1).toInt32 &&& (7 : Int32)), (((a1 >>> (((3 : Int32)).toInt64 &&& 63))).toInt32 &&& (7 : Int32)), (((a1 >>> (((6 : Int32)).toInt64 &&& 63))).toInt32 &&& (7 : Int32)), (if (a1 &&& (512 : Int64)) = (0 : Int64) then (0 : Int32) else 1), (if (a1 &&& (1024 : Int64)) = (0 : Int64) then (0 : Int32) else 1), (if (a1 &&& (2048 : Int64)) = (0 : Int64) then (0 : Int32) else 1), x.2.2.2.2.2.2.2.2.2.2))) hx hb hG inX1 tyX1 tyokX1 nmX1 hown hK hP hD hS 0 rfl rfl 9 (by decide) (hG _ kw22) (fun _ h9 => h9) rfl (by decide +kernel) nb1 nb2 (Nat.le_of_ble_eq_true rfl) dX1_become_147 rfl (fun H locs hP hD hS => ?_)
  refine lv_aload_n hx hb dX1_become_150 rfl (lv_at hl 0 rfl) ?_
  refine lv_lload_n hx hb dX1_become_151 rfl (lv_at hl 2 rfl) ?_
  refine lv_bipush (v := 12) hx hb dX1_become_152 (by decide) ?_
  refine lv_lshr hx hb dX1_become_154 rfl ?_
  refine lv_l2i hx hb dX1_become_155 rfl ?_
  refine lv_sipush (v := 4095) hx hb dX1_become_156 (by decide) ?_
  refine lv_iand hx hb dX1_become_159 ?_
  refine pu (D := D) (ci := 1) (v := .int ((((a1 >>> (((12 : Int32)).toInt64 &&& 63))).toInt32 &&& (4095 : Int32)))) (ty := .int) (W' := (wD b0 ((if (a0 &&& (34359738368 : Int64)) = (0 : Int64) then (0 : Int32) else 1), (if (a0 &&& (17179869184 : Int64)) = (0 : Int64) then (0 : Int32) else 1), ((a0).toInt32 &&& (4095 : Int32)), (((a0 >>> (((12 : Int32)).toInt64 &&& 63))).toInt32 &&& (4095 : Int32)), ((a1).toInt32 &&& (7 : Int32)), (((a1 >>> (((3 : Int32)).toInt64 &&& 63))).toInt32 &&& (7 : Int32)), (((a1 >>> (((6 : Int32)).toInt64 &&& 63))).toInt32 &&& (7 : Int32)), (if (a1 &&& (512 : Int64)) = (0 : Int64) then (0 : Int32) else 1), (if (a1 &&& (1024 : Int64)) = (0 : Int64) then (0 : Int32) else 1), (if (a1 &&& (2048 : Int64)) = (0 : Int64) then (0 : Int32) else 1), (((a1 >>> (((12 : Int32)).toInt64 &&& 63))).toInt32 &&& (4095 : Int32))))) hx hb hG inX1 tyX1 tyokX1 nmX1 hown hK hP hD hS 0 rfl rfl 10 (by decide) (hG _ kw23) (fun _ h9 => h9) rfl (by decide +kernel) rfl rfl (Nat.le_of_ble_eq_true rfl) dX1_become_160 rfl (fun H locs hP hD hS => ?_)
  exact retv (u := ((if (a0 &&& (34359738368 : Int64)) = (0 : Int64) then (0 : Int32) else 1), (if (a0 &&& (17179869184 : Int64)) = (0 : Int64) then (0 : Int32) else 1), ((a0).toInt32 &&& (4095 : Int32)), (((a0 >>> (((12 : Int32)).toInt64 &&& 63))).toInt32 &&& (4095 : Int32)), ((a1).toInt32 &&& (7 : Int32)), (((a1 >>> (((3 : Int32)).toInt64 &&& 63))).toInt32 &&& (7 : Int32)), (((a1 >>> (((6 : Int32)).toInt64 &&& 63))).toInt32 &&& (7 : Int32)), (if (a1 &&& (512 : Int64)) = (0 : Int64) then (0 : Int32) else 1), (if (a1 &&& (1024 : Int64)) = (0 : Int64) then (0 : Int32) else 1), (if (a1 &&& (2048 : Int64)) = (0 : Int64) then (0 : Int32) else 1), (((a1 >>> (((12 : Int32)).toInt64 &&& 63))).toInt32 &&& (4095 : Int32)))) hx hb hr hlocks hK hP hD hS dX1_become_163 (by unfold fnX1_become; (try exact rfl))
def fnX1_refusal (x : TD) (a0 : Int32) (a1 : Int32) (a2 : Int32) : Int32 :=
  if x.1 = (0 : Int32) then
   (1 : Int32)
  else
   if a0 ≤ x.2.2.2.1 then
    if a2 = (0 : Int32) then
     if x.2.2.2.2.2.2.2.1 = (0 : Int32) then
      (4 : Int32)
     else
      if x.2.2.2.2.2.1 < a1 then
       (4 : Int32)
      else
       (0 : Int32)
    else
     if a2 = (1 : Int32) then
      if x.2.2.2.2.2.2.2.2.1 = (0 : Int32) then
       (4 : Int32)
      else
       if x.2.2.2.2.1 < a1 then
        (4 : Int32)
       else
        (0 : Int32)
     else
      if x.2.2.2.2.2.2.2.2.2.1 = (0 : Int32) then
       (4 : Int32)
      else
       if a1 < x.2.2.2.2.1 then
        (4 : Int32)
       else
        if x.2.2.2.2.2.1 < a1 then
         (4 : Int32)
        else
         (0 : Int32)
   else
    (3 : Int32)
abbrev ivX1_refusalP (z : Int32) : Prop := irf z
set_option maxRecDepth 100000 in
set_option maxHeartbeats 4000000 in
theorem ivX1_refusal (x : TD) (a0 : Int32) (a1 : Int32) (a2 : Int32) (hI : iD x) : ivX1_refusalP (fnX1_refusal x a0 a1 a2) := by
  unfold fnX1_refusal
  try dsimp only
  refine iteI (fun h1 => ?_) (fun h1 => ?_)
  · exact (Or.inr (Or.inl rfl))
  · refine iteI (fun h2 => ?_) (fun h2 => ?_)
    · refine iteI (fun h3 => ?_) (fun h3 => ?_)
      · refine iteI (fun h10 => ?_) (fun h10 => ?_)
        · exact (Or.inr (Or.inr (Or.inr rfl)))
        · refine iteI (fun h11 => ?_) (fun h11 => ?_)
          · exact (Or.inr (Or.inr (Or.inr rfl)))
          · exact (Or.inl rfl)
      · refine iteI (fun h4 => ?_) (fun h4 => ?_)
        · refine iteI (fun h8 => ?_) (fun h8 => ?_)
          · exact (Or.inr (Or.inr (Or.inr rfl)))
          · refine iteI (fun h9 => ?_) (fun h9 => ?_)
            · exact (Or.inr (Or.inr (Or.inr rfl)))
            · exact (Or.inl rfl)
        · refine iteI (fun h5 => ?_) (fun h5 => ?_)
          · exact (Or.inr (Or.inr (Or.inr rfl)))
          · refine iteI (fun h6 => ?_) (fun h6 => ?_)
            · exact (Or.inr (Or.inr (Or.inr rfl)))
            · refine iteI (fun h7 => ?_) (fun h7 => ?_)
              · exact (Or.inr (Or.inr (Or.inr rfl)))
              · exact (Or.inl rfl)
    · exact (Or.inr (Or.inr (Or.inl rfl)))
set_option maxRecDepth 100000 in
set_option maxHeartbeats 4000000 in
theorem okX1_refusal (l : Launch) (D : va_G) (cI cJ cP : ClassId) (b0 : Nat) (sz : Nat) (x : TD) (a0 : Int32) (a1 : Int32) (a2 : Int32) (hI : iD x) : Met l yX1_refusal (Cond.code yX1_refusal cX1_refusal 5 (some .int) :: gG) { frames := 0, cells := 0, slots := 0, locals := 0 } (va_Pc [.ref (b0), .int a0, .int a1, .int a2] (PRE D (tz cI cJ cP) sz (wD b0 x))) (va_Qi (fun (r : Int32) (_ : Unit) => r = fnX1_refusal x a0 a1 a2) (AT D (tz cI cJ cP) (va_A (wD b0 x) sz) (fun (_ : Unit) => (wD b0 x))) (va_A (wD b0 x) sz)) 0 0 (va_A (wD b0 x) sz) := by
  refine mo (QA := fun A => va_Qi (fun (r : Int32) (_ : Unit) => r = fnX1_refusal x a0 a1 a2) (AT D (tz cI cJ cP) A (fun (_ : Unit) => (wD b0 x))) A) (by decide) (Nat.le_of_ble_eq_true rfl) ?_
  intro p e s m below meth c A ls H hx hb hr hml hown hG hlocks hnm hA hS hP hK hD hl hN
  have hown : s.vm.findClass RX1 = some m.cls := hown
  have hl : lv_has ls 5 [(0, .ref (b0)), (1, .int a0), (2, .int a1), (3, .int a2)] := hl
  refine lv_aload_n hx hb dX1_refusal_0 rfl (lv_at hl 0 rfl) ?_
  refine va_get (D := D) (ci := 1) (v := .int (x.1)) hx hb hG inX1 hown hK hP 0 rfl rfl 0 (by decide) (hG _ kw9) (fun _ h9 => h9) rfl dX1_refusal_1 ?_
  refine lv_if_ne (tgt := 9) hx hb dX1_refusal_4 (by decide) (fun h1 => ?_) (fun h1 => ?_)
  · refine lv_iload_n hx hb dX1_refusal_9 rfl (lv_at hl 1 rfl) ?_
    refine lv_aload_n hx hb dX1_refusal_10 rfl (lv_at hl 0 rfl) ?_
    refine va_get (D := D) (ci := 1) (v := .int (x.2.2.2.1)) hx hb hG inX1 hown hK hP 0 rfl rfl 3 (by decide) (hG _ kw13) (fun _ h9 => h9) rfl dX1_refusal_11 ?_
    refine lv_icmp_le (tgt := 19) hx hb dX1_refusal_14 (by decide) (fun h2 => ?_) (fun h2 => ?_)
    · refine lv_iload_n hx hb dX1_refusal_19 rfl (lv_at hl 3 rfl) ?_
      refine lv_if_ne (tgt := 48) hx hb dX1_refusal_20 (by decide) (fun h3 => ?_) (fun h3 => ?_)
      · refine lv_iload_n hx hb dX1_refusal_48 rfl (lv_at hl 3 rfl) ?_
        refine lv_iconst (v := 1) hx hb dX1_refusal_49 (by decide) ?_
        refine lv_icmp_ne (tgt := 78) hx hb dX1_refusal_50 (by decide) (fun h4 => ?_) (fun h4 => ?_)
        · refine lv_aload_n hx hb dX1_refusal_78 rfl (lv_at hl 0 rfl) ?_
          refine va_get (D := D) (ci := 1) (v := .int (x.2.2.2.2.2.2.2.2.2.1)) hx hb hG inX1 hown hK hP 0 rfl rfl 9 (by decide) (hG _ kw22) (fun _ h9 => h9) rfl dX1_refusal_79 ?_
          refine lv_if_eq (tgt := 105) hx hb dX1_refusal_82 (by decide) (fun h5 => ?_) (fun h5 => ?_)
          · refine lv_iconst (v := 0) hx hb dX1_refusal_105 (by decide) ?_
            refine lv_istore (lv' := [(4, .int ((0 : Int32))), (0, .ref (b0)), (1, .int (a0)), (2, .int (a1)), (3, .int (a2))]) hx hb dX1_refusal_106 hl (by decide) rfl (fun ls hl => ?_)
            refine lv_iload hx hb dX1_refusal_108 (lv_at hl 0 rfl) ?_
            refine lv_if_eq (tgt := 117) hx hb dX1_refusal_110 (by decide) (fun _ => ?_) (fun h9 => absurd (by decide) h9)
            refine lv_iconst (v := 4) hx hb dX1_refusal_117 (by decide) ?_
            exact reti (u := ()) hx hb hr hlocks hK hP hD hS dX1_refusal_118 (by unfold fnX1_refusal; (try dsimp only); rw [if_neg h1]; rw [if_pos h2]; rw [if_neg h3]; rw [if_neg h4]; rw [if_pos h5]; (try exact rfl))
          · refine lv_iload_n hx hb dX1_refusal_85 rfl (lv_at hl 2 rfl) ?_
            refine lv_aload_n hx hb dX1_refusal_86 rfl (lv_at hl 0 rfl) ?_
            refine va_get (D := D) (ci := 1) (v := .int (x.2.2.2.2.1)) hx hb hG inX1 hown hK hP 0 rfl rfl 4 (by decide) (hG _ kw14) (fun _ h9 => h9) rfl dX1_refusal_87 ?_
            refine lv_icmp_lt (tgt := 105) hx hb dX1_refusal_90 (by decide) (fun h6 => ?_) (fun h6 => ?_)
            · refine lv_iconst (v := 0) hx hb dX1_refusal_105 (by decide) ?_
              refine lv_istore (lv' := [(4, .int ((0 : Int32))), (0, .ref (b0)), (1, .int (a0)), (2, .int (a1)), (3, .int (a2))]) hx hb dX1_refusal_106 hl (by decide) rfl (fun ls hl => ?_)
              refine lv_iload hx hb dX1_refusal_108 (lv_at hl 0 rfl) ?_
              refine lv_if_eq (tgt := 117) hx hb dX1_refusal_110 (by decide) (fun _ => ?_) (fun h9 => absurd (by decide) h9)
              refine lv_iconst (v := 4) hx hb dX1_refusal_117 (by decide) ?_
              exact reti (u := ()) hx hb hr hlocks hK hP hD hS dX1_refusal_118 (by unfold fnX1_refusal; (try dsimp only); rw [if_neg h1]; rw [if_pos h2]; rw [if_neg h3]; rw [if_neg h4]; rw [if_neg h5]; rw [if_pos h6]; (try exact rfl))
            · refine lv_iload_n hx hb dX1_refusal_93 rfl (lv_at hl 2 rfl) ?_
              refine lv_aload_n hx hb dX1_refusal_94 rfl (lv_at hl 0 rfl) ?_
              refine va_get (D := D) (ci := 1) (v := .int (x.2.2.2.2.2.1)) hx hb hG inX1 hown hK hP 0 rfl rfl 5 (by decide) (hG _ kw15) (fun _ h9 => h9) rfl dX1_refusal_95 ?_
              refine lv_icmp_gt (tgt := 105) hx hb dX1_refusal_98 (by decide) (fun h7 => ?_) (fun h7 => ?_)
              · refine lv_iconst (v := 0) hx hb dX1_refusal_105 (by decide) ?_
                refine lv_istore (lv' := [(4, .int ((0 : Int32))), (0, .ref (b0)), (1, .int (a0)), (2, .int (a1)), (3, .int (a2))]) hx hb dX1_refusal_106 hl (by decide) rfl (fun ls hl => ?_)
                refine lv_iload hx hb dX1_refusal_108 (lv_at hl 0 rfl) ?_
                refine lv_if_eq (tgt := 117) hx hb dX1_refusal_110 (by decide) (fun _ => ?_) (fun h9 => absurd (by decide) h9)
                refine lv_iconst (v := 4) hx hb dX1_refusal_117 (by decide) ?_
                exact reti (u := ()) hx hb hr hlocks hK hP hD hS dX1_refusal_118 (by unfold fnX1_refusal; (try dsimp only); rw [if_neg h1]; rw [if_pos h2]; rw [if_neg h3]; rw [if_neg h4]; rw [if_neg h5]; rw [if_neg h6]; rw [if_pos h7]; (try exact rfl))
              · refine lv_iconst (v := 1) hx hb dX1_refusal_101 (by decide) ?_
                refine lv_goto (tgt := 106) hx hb dX1_refusal_102 (by decide) ?_
                refine lv_istore (lv' := [(4, .int ((1 : Int32))), (0, .ref (b0)), (1, .int (a0)), (2, .int (a1)), (3, .int (a2))]) hx hb dX1_refusal_106 hl (by decide) rfl (fun ls hl => ?_)
                refine lv_iload hx hb dX1_refusal_108 (lv_at hl 0 rfl) ?_
                refine lv_if_eq (tgt := 117) hx hb dX1_refusal_110 (by decide) (fun h9 => absurd h9 (by decide)) (fun _ => ?_)
                refine lv_iconst (v := 0) hx hb dX1_refusal_113 (by decide) ?_
                refine lv_goto (tgt := 118) hx hb dX1_refusal_114 (by decide) ?_
                exact reti (u := ()) hx hb hr hlocks hK hP hD hS dX1_refusal_118 (by unfold fnX1_refusal; (try dsimp only); rw [if_neg h1]; rw [if_pos h2]; rw [if_neg h3]; rw [if_neg h4]; rw [if_neg h5]; rw [if_neg h6]; rw [if_neg h7]; (try exact rfl))
        · refine lv_aload_n hx hb dX1_refusal_53 rfl (lv_at hl 0 rfl) ?_
          refine va_get (D := D) (ci := 1) (v := .int (x.2.2.2.2.2.2.2.2.1)) hx hb hG inX1 hown hK hP 0 rfl rfl 8 (by decide) (hG _ kw20) (fun _ h9 => h9) rfl dX1_refusal_54 ?_
          refine lv_if_eq (tgt := 72) hx hb dX1_refusal_57 (by decide) (fun h8 => ?_) (fun h8 => ?_)
          · refine lv_iconst (v := 0) hx hb dX1_refusal_72 (by decide) ?_
            refine lv_istore (lv' := [(4, .int ((0 : Int32))), (0, .ref (b0)), (1, .int (a0)), (2, .int (a1)), (3, .int (a2))]) hx hb dX1_refusal_73 hl (by decide) rfl (fun ls hl => ?_)
            refine lv_goto (tgt := 108) hx hb dX1_refusal_75 (by decide) ?_
            refine lv_iload hx hb dX1_refusal_108 (lv_at hl 0 rfl) ?_
            refine lv_if_eq (tgt := 117) hx hb dX1_refusal_110 (by decide) (fun _ => ?_) (fun h9 => absurd (by decide) h9)
            refine lv_iconst (v := 4) hx hb dX1_refusal_117 (by decide) ?_
            exact reti (u := ()) hx hb hr hlocks hK hP hD hS dX1_refusal_118 (by unfold fnX1_refusal; (try dsimp only); rw [if_neg h1]; rw [if_pos h2]; rw [if_neg h3]; rw [if_pos h4]; rw [if_pos h8]; (try exact rfl))
          · refine lv_iload_n hx hb dX1_refusal_60 rfl (lv_at hl 2 rfl) ?_
            refine lv_aload_n hx hb dX1_refusal_61 rfl (lv_at hl 0 rfl) ?_
            refine va_get (D := D) (ci := 1) (v := .int (x.2.2.2.2.1)) hx hb hG inX1 hown hK hP 0 rfl rfl 4 (by decide) (hG _ kw14) (fun _ h9 => h9) rfl dX1_refusal_62 ?_
            refine lv_icmp_gt (tgt := 72) hx hb dX1_refusal_65 (by decide) (fun h9 => ?_) (fun h9 => ?_)
            · refine lv_iconst (v := 0) hx hb dX1_refusal_72 (by decide) ?_
              refine lv_istore (lv' := [(4, .int ((0 : Int32))), (0, .ref (b0)), (1, .int (a0)), (2, .int (a1)), (3, .int (a2))]) hx hb dX1_refusal_73 hl (by decide) rfl (fun ls hl => ?_)
              refine lv_goto (tgt := 108) hx hb dX1_refusal_75 (by decide) ?_
              refine lv_iload hx hb dX1_refusal_108 (lv_at hl 0 rfl) ?_
              refine lv_if_eq (tgt := 117) hx hb dX1_refusal_110 (by decide) (fun _ => ?_) (fun h9 => absurd (by decide) h9)
              refine lv_iconst (v := 4) hx hb dX1_refusal_117 (by decide) ?_
              exact reti (u := ()) hx hb hr hlocks hK hP hD hS dX1_refusal_118 (by unfold fnX1_refusal; (try dsimp only); rw [if_neg h1]; rw [if_pos h2]; rw [if_neg h3]; rw [if_pos h4]; rw [if_neg h8]; rw [if_pos h9]; (try exact rfl))
            · refine lv_iconst (v := 1) hx hb dX1_refusal_68 (by decide) ?_
              refine lv_goto (tgt := 73) hx hb dX1_refusal_69 (by decide) ?_
              refine lv_istore (lv' := [(4, .int ((1 : Int32))), (0, .ref (b0)), (1, .int (a0)), (2, .int (a1)), (3, .int (a2))]) hx hb dX1_refusal_73 hl (by decide) rfl (fun ls hl => ?_)
              refine lv_goto (tgt := 108) hx hb dX1_refusal_75 (by decide) ?_
              refine lv_iload hx hb dX1_refusal_108 (lv_at hl 0 rfl) ?_
              refine lv_if_eq (tgt := 117) hx hb dX1_refusal_110 (by decide) (fun h9 => absurd h9 (by decide)) (fun _ => ?_)
              refine lv_iconst (v := 0) hx hb dX1_refusal_113 (by decide) ?_
              refine lv_goto (tgt := 118) hx hb dX1_refusal_114 (by decide) ?_
              exact reti (u := ()) hx hb hr hlocks hK hP hD hS dX1_refusal_118 (by unfold fnX1_refusal; (try dsimp only); rw [if_neg h1]; rw [if_pos h2]; rw [if_neg h3]; rw [if_pos h4]; rw [if_neg h8]; rw [if_neg h9]; (try exact rfl))
      · refine lv_aload_n hx hb dX1_refusal_23 rfl (lv_at hl 0 rfl) ?_
        refine va_get (D := D) (ci := 1) (v := .int (x.2.2.2.2.2.2.2.1)) hx hb hG inX1 hown hK hP 0 rfl rfl 7 (by decide) (hG _ kw18) (fun _ h9 => h9) rfl dX1_refusal_24 ?_
        refine lv_if_eq (tgt := 42) hx hb dX1_refusal_27 (by decide) (fun h10 => ?_) (fun h10 => ?_)
        · refine lv_iconst (v := 0) hx hb dX1_refusal_42 (by decide) ?_
          refine lv_istore (lv' := [(4, .int ((0 : Int32))), (0, .ref (b0)), (1, .int (a0)), (2, .int (a1)), (3, .int (a2))]) hx hb dX1_refusal_43 hl (by decide) rfl (fun ls hl => ?_)
          refine lv_goto (tgt := 108) hx hb dX1_refusal_45 (by decide) ?_
          refine lv_iload hx hb dX1_refusal_108 (lv_at hl 0 rfl) ?_
          refine lv_if_eq (tgt := 117) hx hb dX1_refusal_110 (by decide) (fun _ => ?_) (fun h9 => absurd (by decide) h9)
          refine lv_iconst (v := 4) hx hb dX1_refusal_117 (by decide) ?_
          exact reti (u := ()) hx hb hr hlocks hK hP hD hS dX1_refusal_118 (by unfold fnX1_refusal; (try dsimp only); rw [if_neg h1]; rw [if_pos h2]; rw [if_pos h3]; rw [if_pos h10]; (try exact rfl))
        · refine lv_iload_n hx hb dX1_refusal_30 rfl (lv_at hl 2 rfl) ?_
          refine lv_aload_n hx hb dX1_refusal_31 rfl (lv_at hl 0 rfl) ?_
          refine va_get (D := D) (ci := 1) (v := .int (x.2.2.2.2.2.1)) hx hb hG inX1 hown hK hP 0 rfl rfl 5 (by decide) (hG _ kw15) (fun _ h9 => h9) rfl dX1_refusal_32 ?_
          refine lv_icmp_gt (tgt := 42) hx hb dX1_refusal_35 (by decide) (fun h11 => ?_) (fun h11 => ?_)
          · refine lv_iconst (v := 0) hx hb dX1_refusal_42 (by decide) ?_
            refine lv_istore (lv' := [(4, .int ((0 : Int32))), (0, .ref (b0)), (1, .int (a0)), (2, .int (a1)), (3, .int (a2))]) hx hb dX1_refusal_43 hl (by decide) rfl (fun ls hl => ?_)
            refine lv_goto (tgt := 108) hx hb dX1_refusal_45 (by decide) ?_
            refine lv_iload hx hb dX1_refusal_108 (lv_at hl 0 rfl) ?_
            refine lv_if_eq (tgt := 117) hx hb dX1_refusal_110 (by decide) (fun _ => ?_) (fun h9 => absurd (by decide) h9)
            refine lv_iconst (v := 4) hx hb dX1_refusal_117 (by decide) ?_
            exact reti (u := ()) hx hb hr hlocks hK hP hD hS dX1_refusal_118 (by unfold fnX1_refusal; (try dsimp only); rw [if_neg h1]; rw [if_pos h2]; rw [if_pos h3]; rw [if_neg h10]; rw [if_pos h11]; (try exact rfl))
          · refine lv_iconst (v := 1) hx hb dX1_refusal_38 (by decide) ?_
            refine lv_goto (tgt := 43) hx hb dX1_refusal_39 (by decide) ?_
            refine lv_istore (lv' := [(4, .int ((1 : Int32))), (0, .ref (b0)), (1, .int (a0)), (2, .int (a1)), (3, .int (a2))]) hx hb dX1_refusal_43 hl (by decide) rfl (fun ls hl => ?_)
            refine lv_goto (tgt := 108) hx hb dX1_refusal_45 (by decide) ?_
            refine lv_iload hx hb dX1_refusal_108 (lv_at hl 0 rfl) ?_
            refine lv_if_eq (tgt := 117) hx hb dX1_refusal_110 (by decide) (fun h9 => absurd h9 (by decide)) (fun _ => ?_)
            refine lv_iconst (v := 0) hx hb dX1_refusal_113 (by decide) ?_
            refine lv_goto (tgt := 118) hx hb dX1_refusal_114 (by decide) ?_
            exact reti (u := ()) hx hb hr hlocks hK hP hD hS dX1_refusal_118 (by unfold fnX1_refusal; (try dsimp only); rw [if_neg h1]; rw [if_pos h2]; rw [if_pos h3]; rw [if_neg h10]; rw [if_neg h11]; (try exact rfl))
    · refine lv_iconst (v := 3) hx hb dX1_refusal_17 (by decide) ?_
      exact reti (u := ()) hx hb hr hlocks hK hP hD hS dX1_refusal_18 (by unfold fnX1_refusal; (try dsimp only); rw [if_neg h1]; rw [if_neg h2]; (try exact rfl))
  · refine lv_iconst (v := 1) hx hb dX1_refusal_7 (by decide) ?_
    exact reti (u := ()) hx hb hr hlocks hK hP hD hS dX1_refusal_8 (by unfold fnX1_refusal; (try dsimp only); rw [if_pos h1]; (try exact rfl))
def fnX1_ringOfCall (x : TD) (a0 : Int32) (a1 : Int32) : Int32 :=
  if a1 < x.2.2.2.2.1 then
   if a1 ≤ x.2.2.2.2.2.1 then
    (-1 : Int32)
   else
    if x.2.2.2.2.2.2.1 < a1 then
     (-1 : Int32)
    else
     if x.2.2.2.2.2.2.2.2.2.2 ≤ a0 then
      (-1 : Int32)
     else
      x.2.2.2.2.2.1
  else
   if x.2.2.2.2.2.1 < a1 then
    if x.2.2.2.2.2.2.1 < a1 then
     (-1 : Int32)
    else
     if x.2.2.2.2.2.2.2.2.2.2 ≤ a0 then
      (-1 : Int32)
     else
      x.2.2.2.2.2.1
   else
    a1
abbrev ivX1_ringOfCallP (z : Int32) : Prop := irc z
set_option maxRecDepth 100000 in
set_option maxHeartbeats 4000000 in
theorem ivX1_ringOfCall (x : TD) (a0 : Int32) (a1 : Int32) (hI : iD x) (g1 : i3 a1) : ivX1_ringOfCallP (fnX1_ringOfCall x a0 a1) := by
  unfold fnX1_ringOfCall
  try dsimp only
  refine iteI (fun h1 => ?_) (fun h1 => ?_)
  · refine iteI (fun h2 => ?_) (fun h2 => ?_)
    · exact (Or.inl rfl)
    · refine iteI (fun h3 => ?_) (fun h3 => ?_)
      · exact (Or.inl rfl)
      · refine iteI (fun h4 => ?_) (fun h4 => ?_)
        · exact (Or.inl rfl)
        · exact (Or.inr hI.2)
  · refine iteI (fun h5 => ?_) (fun h5 => ?_)
    · refine iteI (fun h6 => ?_) (fun h6 => ?_)
      · exact (Or.inl rfl)
      · refine iteI (fun h7 => ?_) (fun h7 => ?_)
        · exact (Or.inl rfl)
        · exact (Or.inr hI.2)
    · exact (Or.inr g1)
set_option maxRecDepth 100000 in
set_option maxHeartbeats 4000000 in
theorem okX1_ringOfCall (l : Launch) (D : va_G) (cI cJ cP : ClassId) (b0 : Nat) (sz : Nat) (x : TD) (a0 : Int32) (a1 : Int32) (hI : iD x) (g1 : i3 a1) : Met l yX1_ringOfCall (Cond.code yX1_ringOfCall cX1_ringOfCall 3 (some .int) :: gG) { frames := 0, cells := 0, slots := 0, locals := 0 } (va_Pc [.ref (b0), .int a0, .int a1] (PRE D (tz cI cJ cP) sz (wD b0 x))) (va_Qi (fun (r : Int32) (_ : Unit) => r = fnX1_ringOfCall x a0 a1) (AT D (tz cI cJ cP) (va_A (wD b0 x) sz) (fun (_ : Unit) => (wD b0 x))) (va_A (wD b0 x) sz)) 0 0 (va_A (wD b0 x) sz) := by
  refine mo (QA := fun A => va_Qi (fun (r : Int32) (_ : Unit) => r = fnX1_ringOfCall x a0 a1) (AT D (tz cI cJ cP) A (fun (_ : Unit) => (wD b0 x))) A) (by decide) (Nat.le_of_ble_eq_true rfl) ?_
  intro p e s m below meth c A ls H hx hb hr hml hown hG hlocks hnm hA hS hP hK hD hl hN
  have hown : s.vm.findClass RX1 = some m.cls := hown
  have hl : lv_has ls 3 [(0, .ref (b0)), (1, .int a0), (2, .int a1)] := hl
  refine lv_iload_n hx hb dX1_ringOfCall_0 rfl (lv_at hl 2 rfl) ?_
  refine lv_aload_n hx hb dX1_ringOfCall_1 rfl (lv_at hl 0 rfl) ?_
  refine va_get (D := D) (ci := 1) (v := .int (x.2.2.2.2.1)) hx hb hG inX1 hown hK hP 0 rfl rfl 4 (by decide) (hG _ kw14) (fun _ h9 => h9) rfl dX1_ringOfCall_2 ?_
  refine lv_icmp_lt (tgt := 18) hx hb dX1_ringOfCall_5 (by decide) (fun h1 => ?_) (fun h1 => ?_)
  · refine lv_iload_n hx hb dX1_ringOfCall_18 rfl (lv_at hl 2 rfl) ?_
    refine lv_aload_n hx hb dX1_ringOfCall_19 rfl (lv_at hl 0 rfl) ?_
    refine va_get (D := D) (ci := 1) (v := .int (x.2.2.2.2.2.1)) hx hb hG inX1 hown hK hP 0 rfl rfl 5 (by decide) (hG _ kw15) (fun _ h9 => h9) rfl dX1_ringOfCall_20 ?_
    refine lv_icmp_le (tgt := 49) hx hb dX1_ringOfCall_23 (by decide) (fun h2 => ?_) (fun h2 => ?_)
    · refine lv_iconst (v := (-1)) hx hb dX1_ringOfCall_49 (by decide) ?_
      exact reti (u := ()) hx hb hr hlocks hK hP hD hS dX1_ringOfCall_50 (by unfold fnX1_ringOfCall; (try dsimp only); rw [if_pos h1]; rw [if_pos h2]; (try exact rfl))
    · refine lv_iload_n hx hb dX1_ringOfCall_26 rfl (lv_at hl 2 rfl) ?_
      refine lv_aload_n hx hb dX1_ringOfCall_27 rfl (lv_at hl 0 rfl) ?_
      refine va_get (D := D) (ci := 1) (v := .int (x.2.2.2.2.2.2.1)) hx hb hG inX1 hown hK hP 0 rfl rfl 6 (by decide) (hG _ kw16) (fun _ h9 => h9) rfl dX1_ringOfCall_28 ?_
      refine lv_icmp_gt (tgt := 49) hx hb dX1_ringOfCall_31 (by decide) (fun h3 => ?_) (fun h3 => ?_)
      · refine lv_iconst (v := (-1)) hx hb dX1_ringOfCall_49 (by decide) ?_
        exact reti (u := ()) hx hb hr hlocks hK hP hD hS dX1_ringOfCall_50 (by unfold fnX1_ringOfCall; (try dsimp only); rw [if_pos h1]; rw [if_neg h2]; rw [if_pos h3]; (try exact rfl))
      · refine lv_iload_n hx hb dX1_ringOfCall_34 rfl (lv_at hl 1 rfl) ?_
        refine lv_aload_n hx hb dX1_ringOfCall_35 rfl (lv_at hl 0 rfl) ?_
        refine va_get (D := D) (ci := 1) (v := .int (x.2.2.2.2.2.2.2.2.2.2)) hx hb hG inX1 hown hK hP 0 rfl rfl 10 (by decide) (hG _ kw23) (fun _ h9 => h9) rfl dX1_ringOfCall_36 ?_
        refine lv_icmp_ge (tgt := 49) hx hb dX1_ringOfCall_39 (by decide) (fun h4 => ?_) (fun h4 => ?_)
        · refine lv_iconst (v := (-1)) hx hb dX1_ringOfCall_49 (by decide) ?_
          exact reti (u := ()) hx hb hr hlocks hK hP hD hS dX1_ringOfCall_50 (by unfold fnX1_ringOfCall; (try dsimp only); rw [if_pos h1]; rw [if_neg h2]; rw [if_neg h3]; rw [if_pos h4]; (try exact rfl))
        · refine lv_aload_n hx hb dX1_ringOfCall_42 rfl (lv_at hl 0 rfl) ?_
          refine va_get (D := D) (ci := 1) (v := .int (x.2.2.2.2.2.1)) hx hb hG inX1 hown hK hP 0 rfl rfl 5 (by decide) (hG _ kw15) (fun _ h9 => h9) rfl dX1_ringOfCall_43 ?_
          refine lv_goto (tgt := 50) hx hb dX1_ringOfCall_46 (by decide) ?_
          exact reti (u := ()) hx hb hr hlocks hK hP hD hS dX1_ringOfCall_50 (by unfold fnX1_ringOfCall; (try dsimp only); rw [if_pos h1]; rw [if_neg h2]; rw [if_neg h3]; rw [if_neg h4]; (try exact rfl))
  · refine lv_iload_n hx hb dX1_ringOfCall_8 rfl (lv_at hl 2 rfl) ?_
    refine lv_aload_n hx hb dX1_ringOfCall_9 rfl (lv_at hl 0 rfl) ?_
    refine va_get (D := D) (ci := 1) (v := .int (x.2.2.2.2.2.1)) hx hb hG inX1 hown hK hP 0 rfl rfl 5 (by decide) (hG _ kw15) (fun _ h9 => h9) rfl dX1_ringOfCall_10 ?_
    refine lv_icmp_gt (tgt := 18) hx hb dX1_ringOfCall_13 (by decide) (fun h5 => ?_) (fun h5 => ?_)
    · refine lv_iload_n hx hb dX1_ringOfCall_18 rfl (lv_at hl 2 rfl) ?_
      refine lv_aload_n hx hb dX1_ringOfCall_19 rfl (lv_at hl 0 rfl) ?_
      refine va_get (D := D) (ci := 1) (v := .int (x.2.2.2.2.2.1)) hx hb hG inX1 hown hK hP 0 rfl rfl 5 (by decide) (hG _ kw15) (fun _ h9 => h9) rfl dX1_ringOfCall_20 ?_
      refine lv_icmp_le (tgt := 49) hx hb dX1_ringOfCall_23 (by decide) (fun h9 => absurd h9 (Int32.not_le.mpr h5)) (fun _ => ?_)
      refine lv_iload_n hx hb dX1_ringOfCall_26 rfl (lv_at hl 2 rfl) ?_
      refine lv_aload_n hx hb dX1_ringOfCall_27 rfl (lv_at hl 0 rfl) ?_
      refine va_get (D := D) (ci := 1) (v := .int (x.2.2.2.2.2.2.1)) hx hb hG inX1 hown hK hP 0 rfl rfl 6 (by decide) (hG _ kw16) (fun _ h9 => h9) rfl dX1_ringOfCall_28 ?_
      refine lv_icmp_gt (tgt := 49) hx hb dX1_ringOfCall_31 (by decide) (fun h6 => ?_) (fun h6 => ?_)
      · refine lv_iconst (v := (-1)) hx hb dX1_ringOfCall_49 (by decide) ?_
        exact reti (u := ()) hx hb hr hlocks hK hP hD hS dX1_ringOfCall_50 (by unfold fnX1_ringOfCall; (try dsimp only); rw [if_neg h1]; rw [if_pos h5]; rw [if_pos h6]; (try exact rfl))
      · refine lv_iload_n hx hb dX1_ringOfCall_34 rfl (lv_at hl 1 rfl) ?_
        refine lv_aload_n hx hb dX1_ringOfCall_35 rfl (lv_at hl 0 rfl) ?_
        refine va_get (D := D) (ci := 1) (v := .int (x.2.2.2.2.2.2.2.2.2.2)) hx hb hG inX1 hown hK hP 0 rfl rfl 10 (by decide) (hG _ kw23) (fun _ h9 => h9) rfl dX1_ringOfCall_36 ?_
        refine lv_icmp_ge (tgt := 49) hx hb dX1_ringOfCall_39 (by decide) (fun h7 => ?_) (fun h7 => ?_)
        · refine lv_iconst (v := (-1)) hx hb dX1_ringOfCall_49 (by decide) ?_
          exact reti (u := ()) hx hb hr hlocks hK hP hD hS dX1_ringOfCall_50 (by unfold fnX1_ringOfCall; (try dsimp only); rw [if_neg h1]; rw [if_pos h5]; rw [if_neg h6]; rw [if_pos h7]; (try exact rfl))
        · refine lv_aload_n hx hb dX1_ringOfCall_42 rfl (lv_at hl 0 rfl) ?_
          refine va_get (D := D) (ci := 1) (v := .int (x.2.2.2.2.2.1)) hx hb hG inX1 hown hK hP 0 rfl rfl 5 (by decide) (hG _ kw15) (fun _ h9 => h9) rfl dX1_ringOfCall_43 ?_
          refine lv_goto (tgt := 50) hx hb dX1_ringOfCall_46 (by decide) ?_
          exact reti (u := ()) hx hb hr hlocks hK hP hD hS dX1_ringOfCall_50 (by unfold fnX1_ringOfCall; (try dsimp only); rw [if_neg h1]; rw [if_pos h5]; rw [if_neg h6]; rw [if_neg h7]; (try exact rfl))
    · refine lv_iload_n hx hb dX1_ringOfCall_16 rfl (lv_at hl 2 rfl) ?_
      exact reti (u := ()) hx hb hr hlocks hK hP hD hS dX1_ringOfCall_17 (by unfold fnX1_ringOfCall; (try dsimp only); rw [if_neg h1]; rw [if_neg h5]; (try exact rfl))
