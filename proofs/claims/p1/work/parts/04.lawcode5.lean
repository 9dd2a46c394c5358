theorem d_code_31 : decode code 31 = .ok (.iand, 1) := by decide +kernel
theorem d_code_32 : decode code 32 = .ok (.tableswitch 726 0 26 #[124, 137, 150, 183, 216, 229, 252, 275, 298, 312, 325, 358, 401, 434, 457, 470, 493, 516, 529, 552, 565, 578, 591, 624, 657, 690, 703], 124) := by decide +kernel
theorem d_code_0 : decode code 0 = .ok (.new 7, 3) := by decide +kernel
theorem d_code_3 : decode code 3 = .ok (.dup, 1) := by decide +kernel
theorem d_code_4 : decode code 4 = .ok (.invokespecial 9, 3) := by decide +kernel
theorem d_code_7 : decode code 7 = .ok (.astore_n 1, 1) := by decide +kernel
theorem d_code_8 : decode code 8 = .ok (.new 10, 3) := by decide +kernel
theorem d_code_11 : decode code 11 = .ok (.dup, 1) := by decide +kernel
theorem d_code_12 : decode code 12 = .ok (.invokespecial 12, 3) := by decide +kernel
theorem d_code_15 : decode code 15 = .ok (.astore_n 2, 1) := by decide +kernel
theorem d_code_16 : decode code 16 = .ok (.iconst 0, 1) := by decide +kernel
theorem d_code_17 : decode code 17 = .ok (.istore_n 3, 1) := by decide +kernel
