theorem dd_J_fill_0 : decode cc_J_fill 0 = .ok (.iconst 0, 1) := by decide +kernel
theorem dd_J_fill_1 : decode cc_J_fill 1 = .ok (.istore_n 2, 1) := by decide +kernel
theorem dd_J_fill_2 : decode cc_J_fill 2 = .ok (.aload_n 0, 1) := by decide +kernel
theorem dd_J_fill_3 : decode cc_J_fill 3 = .ok (.arraylength, 1) := by decide +kernel
theorem dd_J_fill_4 : decode cc_J_fill 4 = .ok (.istore_n 3, 1) := by decide +kernel
theorem dd_J_fill_5 : decode cc_J_fill 5 = .ok (.iload_n 2, 1) := by decide +kernel
theorem dd_J_fill_6 : decode cc_J_fill 6 = .ok (.iload_n 3, 1) := by decide +kernel
theorem dd_J_fill_7 : decode cc_J_fill 7 = .ok (.if_icmp .ge 13, 3) := by decide +kernel
theorem dd_J_fill_10 : decode cc_J_fill 10 = .ok (.aload_n 0, 1) := by decide +kernel
theorem dd_J_fill_11 : decode cc_J_fill 11 = .ok (.iload_n 2, 1) := by decide +kernel
theorem dd_J_fill_12 : decode cc_J_fill 12 = .ok (.iload_n 1, 1) := by decide +kernel
theorem dd_J_fill_13 : decode cc_J_fill 13 = .ok (.iastore, 1) := by decide +kernel
theorem dd_J_fill_14 : decode cc_J_fill 14 = .ok (.iinc 2 1, 3) := by decide +kernel
theorem dd_J_fill_17 : decode cc_J_fill 17 = .ok (.goto (-12), 3) := by decide +kernel
theorem dd_J_fill_20 : decode cc_J_fill 20 = .ok (.return_, 1) := by decide +kernel
theorem dd_N_bitCount_0 : decode cc_N_bitCount 0 = .ok (.iload_n 0, 1) := by decide +kernel
theorem dd_N_bitCount_1 : decode cc_N_bitCount 1 = .ok (.iload_n 0, 1) := by decide +kernel
theorem dd_N_bitCount_2 : decode cc_N_bitCount 2 = .ok (.iconst 1, 1) := by decide +kernel
theorem dd_N_bitCount_3 : decode cc_N_bitCount 3 = .ok (.iushr, 1) := by decide +kernel
theorem dd_N_bitCount_4 : decode cc_N_bitCount 4 = .ok (.ldc_w 265, 3) := by decide +kernel
theorem dd_N_bitCount_7 : decode cc_N_bitCount 7 = .ok (.iand, 1) := by decide +kernel
theorem dd_N_bitCount_8 : decode cc_N_bitCount 8 = .ok (.isub, 1) := by decide +kernel
theorem dd_N_bitCount_9 : decode cc_N_bitCount 9 = .ok (.istore_n 0, 1) := by decide +kernel
theorem dd_N_bitCount_10 : decode cc_N_bitCount 10 = .ok (.iload_n 0, 1) := by decide +kernel
theorem dd_N_bitCount_11 : decode cc_N_bitCount 11 = .ok (.ldc_w 266, 3) := by decide +kernel
theorem dd_N_bitCount_14 : decode cc_N_bitCount 14 = .ok (.iand, 1) := by decide +kernel
theorem dd_N_bitCount_15 : decode cc_N_bitCount 15 = .ok (.iload_n 0, 1) := by decide +kernel
theorem dd_N_bitCount_16 : decode cc_N_bitCount 16 = .ok (.iconst 2, 1) := by decide +kernel
theorem dd_N_bitCount_17 : decode cc_N_bitCount 17 = .ok (.iushr, 1) := by decide +kernel
theorem dd_N_bitCount_18 : decode cc_N_bitCount 18 = .ok (.ldc_w 266, 3) := by decide +kernel
theorem dd_N_bitCount_21 : decode cc_N_bitCount 21 = .ok (.iand, 1) := by decide +kernel
theorem dd_N_bitCount_22 : decode cc_N_bitCount 22 = .ok (.iadd, 1) := by decide +kernel
theorem dd_N_bitCount_23 : decode cc_N_bitCount 23 = .ok (.istore_n 0, 1) := by decide +kernel
theorem dd_N_bitCount_24 : decode cc_N_bitCount 24 = .ok (.iload_n 0, 1) := by decide +kernel
theorem dd_N_bitCount_25 : decode cc_N_bitCount 25 = .ok (.iload_n 0, 1) := by decide +kernel
theorem dd_N_bitCount_26 : decode cc_N_bitCount 26 = .ok (.iconst 4, 1) := by decide +kernel
theorem dd_N_bitCount_27 : decode cc_N_bitCount 27 = .ok (.iushr, 1) := by decide +kernel
theorem dd_N_bitCount_28 : decode cc_N_bitCount 28 = .ok (.iadd, 1) := by decide +kernel
theorem dd_N_bitCount_29 : decode cc_N_bitCount 29 = .ok (.ldc_w 267, 3) := by decide +kernel
theorem dd_N_bitCount_32 : decode cc_N_bitCount 32 = .ok (.iand, 1) := by decide +kernel
theorem dd_N_bitCount_33 : decode cc_N_bitCount 33 = .ok (.istore_n 0, 1) := by decide +kernel
theorem dd_N_bitCount_34 : decode cc_N_bitCount 34 = .ok (.iload_n 0, 1) := by decide +kernel
theorem dd_N_bitCount_35 : decode cc_N_bitCount 35 = .ok (.iload_n 0, 1) := by decide +kernel
theorem dd_N_bitCount_36 : decode cc_N_bitCount 36 = .ok (.bipush 8, 2) := by decide +kernel
theorem dd_N_bitCount_38 : decode cc_N_bitCount 38 = .ok (.iushr, 1) := by decide +kernel
theorem dd_N_bitCount_39 : decode cc_N_bitCount 39 = .ok (.iadd, 1) := by decide +kernel
theorem dd_N_bitCount_40 : decode cc_N_bitCount 40 = .ok (.istore_n 0, 1) := by decide +kernel
theorem dd_N_bitCount_41 : decode cc_N_bitCount 41 = .ok (.iload_n 0, 1) := by decide +kernel
theorem dd_N_bitCount_42 : decode cc_N_bitCount 42 = .ok (.iload_n 0, 1) := by decide +kernel
theorem dd_N_bitCount_43 : decode cc_N_bitCount 43 = .ok (.bipush 16, 2) := by decide +kernel
theorem dd_N_bitCount_45 : decode cc_N_bitCount 45 = .ok (.iushr, 1) := by decide +kernel
theorem dd_N_bitCount_46 : decode cc_N_bitCount 46 = .ok (.iadd, 1) := by decide +kernel
theorem dd_N_bitCount_47 : decode cc_N_bitCount 47 = .ok (.istore_n 0, 1) := by decide +kernel
theorem dd_N_bitCount_48 : decode cc_N_bitCount 48 = .ok (.iload_n 0, 1) := by decide +kernel
theorem dd_N_bitCount_49 : decode cc_N_bitCount 49 = .ok (.bipush 63, 2) := by decide +kernel
theorem dd_N_bitCount_51 : decode cc_N_bitCount 51 = .ok (.iand, 1) := by decide +kernel
theorem dd_N_bitCount_52 : decode cc_N_bitCount 52 = .ok (.ireturn, 1) := by decide +kernel
