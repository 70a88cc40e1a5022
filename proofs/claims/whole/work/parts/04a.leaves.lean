theorem dX4_field_0 : decode cX4_field 0 = .ok (.lload_n 0, 1) := by decide +kernel
theorem dX4_field_1 : decode cX4_field 1 = .ok (.iload_n 2, 1) := by decide +kernel
theorem dX4_field_2 : decode cX4_field 2 = .ok (.lshr, 1) := by decide +kernel
theorem dX4_field_3 : decode cX4_field 3 = .ok (.l2i, 1) := by decide +kernel
theorem dX4_field_4 : decode cX4_field 4 = .ok (.iconst 1, 1) := by decide +kernel
theorem dX4_field_5 : decode cX4_field 5 = .ok (.iload_n 3, 1) := by decide +kernel
theorem dX4_field_6 : decode cX4_field 6 = .ok (.ishl, 1) := by decide +kernel
theorem dX4_field_7 : decode cX4_field 7 = .ok (.iconst 1, 1) := by decide +kernel
theorem dX4_field_8 : decode cX4_field 8 = .ok (.isub, 1) := by decide +kernel
theorem dX4_field_9 : decode cX4_field 9 = .ok (.iand, 1) := by decide +kernel
theorem dX4_field_10 : decode cX4_field 10 = .ok (.ireturn, 1) := by decide +kernel
theorem dX4_sum_0 : decode cX4_sum 0 = .ok (.iload_n 0, 1) := by decide +kernel
theorem dX4_sum_1 : decode cX4_sum 1 = .ok (.iload_n 1, 1) := by decide +kernel
theorem dX4_sum_2 : decode cX4_sum 2 = .ok (.iadd, 1) := by decide +kernel
theorem dX4_sum_3 : decode cX4_sum 3 = .ok (.sipush 4095, 3) := by decide +kernel
theorem dX4_sum_6 : decode cX4_sum 6 = .ok (.iand, 1) := by decide +kernel
theorem dX4_sum_7 : decode cX4_sum 7 = .ok (.ireturn, 1) := by decide +kernel
theorem dX4_faultOf_0 : decode cX4_faultOf 0 = .ok (.ldc2_w 237, 3) := by decide +kernel
theorem dX4_faultOf_3 : decode cX4_faultOf 3 = .ok (.lload_n 0, 1) := by decide +kernel
theorem dX4_faultOf_4 : decode cX4_faultOf 4 = .ok (.lsub, 1) := by decide +kernel
theorem dX4_faultOf_5 : decode cX4_faultOf 5 = .ok (.l2i, 1) := by decide +kernel
theorem dX4_faultOf_6 : decode cX4_faultOf 6 = .ok (.ireturn, 1) := by decide +kernel
theorem kw0 : Cond.constantLong RX4 237 (-1) ∈ gG := inG 434 (by decide +kernel) (by decide +kernel)
