theorem d_p7_33_41 : decode prog_7_method_33_code 41 = .ok (.iconst 3, 1) := by decide +kernel
theorem d_p7_33_42 : decode prog_7_method_33_code 42 = .ok (.istore_n 2, 1) := by decide +kernel
theorem d_p7_33_43 : decode prog_7_method_33_code 43 = .ok (.iload_n 1, 1) := by decide +kernel
theorem d_p7_33_44 : decode prog_7_method_33_code 44 = .ok (.ifCond .eq 17, 3) := by decide +kernel
theorem d_p7_33_61 : decode prog_7_method_33_code 61 = .ok (.iload_n 1, 1) := by decide +kernel
theorem d_p7_33_62 : decode prog_7_method_33_code 62 = .ok (.ifCond .eq 7, 3) := by decide +kernel
theorem d_p7_33_69 : decode prog_7_method_33_code 69 = .ok (.iconst (-1), 1) := by decide +kernel
theorem d_p7_33_70 : decode prog_7_method_33_code 70 = .ok (.ireturn, 1) := by decide +kernel
theorem d_p7_2_0 : decode prog_7_method_2_code 0 = .ok (.aload_n 0, 1) := by decide +kernel
theorem d_p7_2_1 : decode prog_7_method_2_code 1 = .ok (.getfield 45, 3) := by decide +kernel
theorem d_p7_2_4 : decode prog_7_method_2_code 4 = .ok (.istore_n 1, 1) := by decide +kernel
theorem d_p7_2_5 : decode prog_7_method_2_code 5 = .ok (.aload_n 0, 1) := by decide +kernel
theorem d_p7_2_6 : decode prog_7_method_2_code 6 = .ok (.iconst 0, 1) := by decide +kernel
theorem d_p7_2_7 : decode prog_7_method_2_code 7 = .ok (.putfield 45, 3) := by decide +kernel
theorem d_p7_2_10 : decode prog_7_method_2_code 10 = .ok (.iload_n 1, 1) := by decide +kernel
theorem d_p7_2_11 : decode prog_7_method_2_code 11 = .ok (.ireturn, 1) := by decide +kernel
theorem d_p7_6_0 : decode prog_7_method_6_code 0 = .ok (.aload_n 0, 1) := by decide +kernel
theorem d_p7_6_1 : decode prog_7_method_6_code 1 = .ok (.getfield 45, 3) := by decide +kernel
theorem d_p7_6_4 : decode prog_7_method_6_code 4 = .ok (.bipush 14, 2) := by decide +kernel
theorem d_p7_6_6 : decode prog_7_method_6_code 6 = .ok (.if_icmp .ne 6, 3) := by decide +kernel
theorem d_p7_6_12 : decode prog_7_method_6_code 12 = .ok (.iconst 0, 1) := by decide +kernel
theorem d_p7_6_13 : decode prog_7_method_6_code 13 = .ok (.istore_n 1, 1) := by decide +kernel
theorem d_p7_6_14 : decode prog_7_method_6_code 14 = .ok (.iload_n 1, 1) := by decide +kernel
theorem d_p7_6_15 : decode prog_7_method_6_code 15 = .ok (.bipush 14, 2) := by decide +kernel
theorem d_p7_6_17 : decode prog_7_method_6_code 17 = .ok (.if_icmp .ge 39, 3) := by decide +kernel
theorem d_p7_6_20 : decode prog_7_method_6_code 20 = .ok (.aload_n 0, 1) := by decide +kernel
theorem d_p7_6_21 : decode prog_7_method_6_code 21 = .ok (.getfield 7, 3) := by decide +kernel
theorem d_p7_6_24 : decode prog_7_method_6_code 24 = .ok (.bipush 14, 2) := by decide +kernel
theorem d_p7_6_26 : decode prog_7_method_6_code 26 = .ok (.aload_n 0, 1) := by decide +kernel
theorem d_p7_6_27 : decode prog_7_method_6_code 27 = .ok (.getfield 45, 3) := by decide +kernel
theorem d_p7_6_30 : decode prog_7_method_6_code 30 = .ok (.imul, 1) := by decide +kernel
theorem d_p7_6_31 : decode prog_7_method_6_code 31 = .ok (.iload_n 1, 1) := by decide +kernel
theorem d_p7_6_32 : decode prog_7_method_6_code 32 = .ok (.iadd, 1) := by decide +kernel
theorem d_p7_6_33 : decode prog_7_method_6_code 33 = .ok (.iconst 0, 1) := by decide +kernel
theorem d_p7_6_34 : decode prog_7_method_6_code 34 = .ok (.bastore, 1) := by decide +kernel
theorem d_p7_6_35 : decode prog_7_method_6_code 35 = .ok (.aload_n 0, 1) := by decide +kernel
theorem d_p7_6_36 : decode prog_7_method_6_code 36 = .ok (.getfield 7, 3) := by decide +kernel
theorem d_p7_6_39 : decode prog_7_method_6_code 39 = .ok (.bipush 14, 2) := by decide +kernel
theorem d_p7_6_41 : decode prog_7_method_6_code 41 = .ok (.iload_n 1, 1) := by decide +kernel
theorem d_p7_6_42 : decode prog_7_method_6_code 42 = .ok (.imul, 1) := by decide +kernel
theorem d_p7_6_43 : decode prog_7_method_6_code 43 = .ok (.aload_n 0, 1) := by decide +kernel
theorem d_p7_6_44 : decode prog_7_method_6_code 44 = .ok (.getfield 45, 3) := by decide +kernel
theorem d_p7_6_47 : decode prog_7_method_6_code 47 = .ok (.iadd, 1) := by decide +kernel
theorem d_p7_6_48 : decode prog_7_method_6_code 48 = .ok (.iconst 0, 1) := by decide +kernel
theorem d_p7_6_49 : decode prog_7_method_6_code 49 = .ok (.bastore, 1) := by decide +kernel
theorem d_p7_6_50 : decode prog_7_method_6_code 50 = .ok (.iinc 1 1, 3) := by decide +kernel
theorem d_p7_6_53 : decode prog_7_method_6_code 53 = .ok (.goto (-39), 3) := by decide +kernel
theorem d_p7_6_56 : decode prog_7_method_6_code 56 = .ok (.aload_n 0, 1) := by decide +kernel
theorem d_p7_6_57 : decode prog_7_method_6_code 57 = .ok (.dup, 1) := by decide +kernel
theorem d_p7_6_58 : decode prog_7_method_6_code 58 = .ok (.getfield 45, 3) := by decide +kernel
theorem d_p7_6_61 : decode prog_7_method_6_code 61 = .ok (.iconst 1, 1) := by decide +kernel
theorem d_p7_6_62 : decode prog_7_method_6_code 62 = .ok (.iadd, 1) := by decide +kernel
theorem d_p7_6_63 : decode prog_7_method_6_code 63 = .ok (.putfield 45, 3) := by decide +kernel
theorem d_p7_6_66 : decode prog_7_method_6_code 66 = .ok (.aload_n 0, 1) := by decide +kernel
theorem d_p7_6_67 : decode prog_7_method_6_code 67 = .ok (.getfield 45, 3) := by decide +kernel
theorem d_p7_6_70 : decode prog_7_method_6_code 70 = .ok (.iconst 1, 1) := by decide +kernel
theorem d_p7_6_71 : decode prog_7_method_6_code 71 = .ok (.isub, 1) := by decide +kernel
theorem d_p7_6_72 : decode prog_7_method_6_code 72 = .ok (.ireturn, 1) := by decide +kernel
theorem d_p7_8_0 : decode prog_7_method_8_code 0 = .ok (.aload_n 0, 1) := by decide +kernel
theorem d_p7_8_1 : decode prog_7_method_8_code 1 = .ok (.iload_n 1, 1) := by decide +kernel
theorem d_p7_8_2 : decode prog_7_method_8_code 2 = .ok (.invokevirtual 57, 3) := by decide +kernel
theorem d_p7_8_5 : decode prog_7_method_8_code 5 = .ok (.ifCond .eq 16, 3) := by decide +kernel
theorem d_p7_8_21 : decode prog_7_method_8_code 21 = .ok (.bipush (-2), 2) := by decide +kernel
theorem d_p7_8_23 : decode prog_7_method_8_code 23 = .ok (.ireturn, 1) := by decide +kernel
theorem d_p7_9_0 : decode prog_7_method_9_code 0 = .ok (.aload_n 0, 1) := by decide +kernel
theorem d_p7_9_1 : decode prog_7_method_9_code 1 = .ok (.iload_n 1, 1) := by decide +kernel
theorem d_p7_9_2 : decode prog_7_method_9_code 2 = .ok (.invokevirtual 57, 3) := by decide +kernel
theorem d_p7_9_5 : decode prog_7_method_9_code 5 = .ok (.ifCond .eq 16, 3) := by decide +kernel
theorem d_p7_9_21 : decode prog_7_method_9_code 21 = .ok (.bipush (-2), 2) := by decide +kernel
theorem d_p7_9_23 : decode prog_7_method_9_code 23 = .ok (.ireturn, 1) := by decide +kernel
theorem d_p7_22_0 : decode prog_7_method_22_code 0 = .ok (.aload_n 0, 1) := by decide +kernel
theorem d_p7_22_1 : decode prog_7_method_22_code 1 = .ok (.iload_n 1, 1) := by decide +kernel
theorem d_p7_22_2 : decode prog_7_method_22_code 2 = .ok (.invokevirtual 57, 3) := by decide +kernel
theorem d_p7_22_5 : decode prog_7_method_22_code 5 = .ok (.ifCond .eq 11, 3) := by decide +kernel
theorem d_p7_22_16 : decode prog_7_method_22_code 16 = .ok (.bipush (-2), 2) := by decide +kernel
theorem d_p7_22_18 : decode prog_7_method_22_code 18 = .ok (.ireturn, 1) := by decide +kernel
theorem d_p7_41_0 : decode prog_7_method_41_code 0 = .ok (.aload_n 0, 1) := by decide +kernel
theorem d_p7_41_1 : decode prog_7_method_41_code 1 = .ok (.iload_n 1, 1) := by decide +kernel
theorem d_p7_41_2 : decode prog_7_method_41_code 2 = .ok (.invokevirtual 57, 3) := by decide +kernel
theorem d_p7_41_5 : decode prog_7_method_41_code 5 = .ok (.ifCond .eq 11, 3) := by decide +kernel
theorem d_p7_41_16 : decode prog_7_method_41_code 16 = .ok (.bipush (-2), 2) := by decide +kernel
theorem d_p7_41_18 : decode prog_7_method_41_code 18 = .ok (.ireturn, 1) := by decide +kernel
theorem d_p7_43_0 : decode prog_7_method_43_code 0 = .ok (.aload_n 0, 1) := by decide +kernel
theorem d_p7_43_1 : decode prog_7_method_43_code 1 = .ok (.iload_n 1, 1) := by decide +kernel
theorem d_p7_43_2 : decode prog_7_method_43_code 2 = .ok (.invokevirtual 57, 3) := by decide +kernel
theorem d_p7_43_5 : decode prog_7_method_43_code 5 = .ok (.ifCond .eq 11, 3) := by decide +kernel
theorem d_p7_43_16 : decode prog_7_method_43_code 16 = .ok (.bipush (-2), 2) := by decide +kernel
theorem d_p7_43_18 : decode prog_7_method_43_code 18 = .ok (.ireturn, 1) := by decide +kernel
theorem d_p7_45_0 : decode prog_7_method_45_code 0 = .ok (.aload_n 0, 1) := by decide +kernel
theorem d_p7_45_1 : decode prog_7_method_45_code 1 = .ok (.iload_n 1, 1) := by decide +kernel
theorem d_p7_45_2 : decode prog_7_method_45_code 2 = .ok (.invokevirtual 57, 3) := by decide +kernel
theorem d_p7_45_5 : decode prog_7_method_45_code 5 = .ok (.ifCond .eq 16, 3) := by decide +kernel
theorem d_p7_45_21 : decode prog_7_method_45_code 21 = .ok (.bipush (-2), 2) := by decide +kernel
theorem d_p7_45_23 : decode prog_7_method_45_code 23 = .ok (.ireturn, 1) := by decide +kernel
theorem d_p7_23_0 : decode prog_7_method_23_code 0 = .ok (.aload_n 0, 1) := by decide +kernel
theorem d_p7_23_1 : decode prog_7_method_23_code 1 = .ok (.iload_n 1, 1) := by decide +kernel
theorem d_p7_23_2 : decode prog_7_method_23_code 2 = .ok (.invokevirtual 57, 3) := by decide +kernel
theorem d_p7_23_5 : decode prog_7_method_23_code 5 = .ok (.ifCond .eq 11, 3) := by decide +kernel
theorem d_p7_23_16 : decode prog_7_method_23_code 16 = .ok (.bipush (-2), 2) := by decide +kernel
theorem d_p7_23_18 : decode prog_7_method_23_code 18 = .ok (.ireturn, 1) := by decide +kernel
theorem d_p7_24_0 : decode prog_7_method_24_code 0 = .ok (.aload_n 0, 1) := by decide +kernel
theorem d_p7_24_1 : decode prog_7_method_24_code 1 = .ok (.iload_n 1, 1) := by decide +kernel
theorem d_p7_24_2 : decode prog_7_method_24_code 2 = .ok (.invokevirtual 57, 3) := by decide +kernel
theorem d_p7_24_5 : decode prog_7_method_24_code 5 = .ok (.ifCond .eq 12, 3) := by decide +kernel
theorem d_p7_24_17 : decode prog_7_method_24_code 17 = .ok (.bipush (-2), 2) := by decide +kernel
theorem d_p7_24_19 : decode prog_7_method_24_code 19 = .ok (.ireturn, 1) := by decide +kernel
theorem d_p7_15_0 : decode prog_7_method_15_code 0 = .ok (.aload_n 0, 1) := by decide +kernel
theorem d_p7_15_1 : decode prog_7_method_15_code 1 = .ok (.iload_n 1, 1) := by decide +kernel
theorem d_p7_15_2 : decode prog_7_method_15_code 2 = .ok (.invokevirtual 57, 3) := by decide +kernel
theorem d_p7_15_5 : decode prog_7_method_15_code 5 = .ok (.ifCond .ne 6, 3) := by decide +kernel
theorem d_p7_15_8 : decode prog_7_method_15_code 8 = .ok (.bipush (-2), 2) := by decide +kernel
theorem d_p7_15_10 : decode prog_7_method_15_code 10 = .ok (.ireturn, 1) := by decide +kernel
theorem d_p7_25_0 : decode prog_7_method_25_code 0 = .ok (.aload_n 0, 1) := by decide +kernel
theorem d_p7_25_1 : decode prog_7_method_25_code 1 = .ok (.iload_n 1, 1) := by decide +kernel
theorem d_p7_25_2 : decode prog_7_method_25_code 2 = .ok (.invokevirtual 57, 3) := by decide +kernel
theorem d_p7_25_5 : decode prog_7_method_25_code 5 = .ok (.ifCond .ne 6, 3) := by decide +kernel
theorem d_p7_25_8 : decode prog_7_method_25_code 8 = .ok (.bipush (-2), 2) := by decide +kernel
theorem d_p7_25_10 : decode prog_7_method_25_code 10 = .ok (.ireturn, 1) := by decide +kernel
theorem d_p7_30_0 : decode prog_7_method_30_code 0 = .ok (.aload_n 0, 1) := by decide +kernel
theorem d_p7_30_1 : decode prog_7_method_30_code 1 = .ok (.iload_n 1, 1) := by decide +kernel
theorem d_p7_30_2 : decode prog_7_method_30_code 2 = .ok (.invokevirtual 57, 3) := by decide +kernel
theorem d_p7_30_5 : decode prog_7_method_30_code 5 = .ok (.ifCond .ne 6, 3) := by decide +kernel
theorem d_p7_30_8 : decode prog_7_method_30_code 8 = .ok (.bipush (-2), 2) := by decide +kernel
theorem d_p7_30_10 : decode prog_7_method_30_code 10 = .ok (.ireturn, 1) := by decide +kernel
theorem d_p7_31_0 : decode prog_7_method_31_code 0 = .ok (.aload_n 0, 1) := by decide +kernel
theorem d_p7_31_1 : decode prog_7_method_31_code 1 = .ok (.iload_n 1, 1) := by decide +kernel
theorem d_p7_31_2 : decode prog_7_method_31_code 2 = .ok (.invokevirtual 57, 3) := by decide +kernel
theorem d_p7_31_5 : decode prog_7_method_31_code 5 = .ok (.ifCond .ne 6, 3) := by decide +kernel
theorem d_p7_31_8 : decode prog_7_method_31_code 8 = .ok (.bipush (-2), 2) := by decide +kernel
theorem d_p7_31_10 : decode prog_7_method_31_code 10 = .ok (.ireturn, 1) := by decide +kernel
theorem d_p7_14_0 : decode prog_7_method_14_code 0 = .ok (.aload_n 0, 1) := by decide +kernel
theorem d_p7_14_1 : decode prog_7_method_14_code 1 = .ok (.invokevirtual 75, 3) := by decide +kernel
theorem d_p7_14_4 : decode prog_7_method_14_code 4 = .ok (.aload_n 0, 1) := by decide +kernel
theorem d_p7_14_5 : decode prog_7_method_14_code 5 = .ok (.getfield 69, 3) := by decide +kernel
theorem d_p7_14_8 : decode prog_7_method_14_code 8 = .ok (.ireturn, 1) := by decide +kernel
theorem d_p7_29_0 : decode prog_7_method_29_code 0 = .ok (.aload_n 0, 1) := by decide +kernel
theorem d_p7_29_1 : decode prog_7_method_29_code 1 = .ok (.invokevirtual 96, 3) := by decide +kernel
theorem d_p7_29_4 : decode prog_7_method_29_code 4 = .ok (.aload_n 0, 1) := by decide +kernel
theorem d_p7_29_5 : decode prog_7_method_29_code 5 = .ok (.getfield 87, 3) := by decide +kernel
theorem d_p7_29_8 : decode prog_7_method_29_code 8 = .ok (.ireturn, 1) := by decide +kernel
theorem d_p7_16_0 : decode prog_7_method_16_code 0 = .ok (.aload_n 0, 1) := by decide +kernel
theorem d_p7_16_1 : decode prog_7_method_16_code 1 = .ok (.invokevirtual 75, 3) := by decide +kernel
theorem d_p7_16_4 : decode prog_7_method_16_code 4 = .ok (.iload_n 1, 1) := by decide +kernel
theorem d_p7_16_5 : decode prog_7_method_16_code 5 = .ok (.iconst 0, 1) := by decide +kernel
theorem d_p7_16_6 : decode prog_7_method_16_code 6 = .ok (.aload_n 0, 1) := by decide +kernel
theorem d_p7_16_7 : decode prog_7_method_16_code 7 = .ok (.getfield 69, 3) := by decide +kernel
theorem d_p7_16_10 : decode prog_7_method_16_code 10 = .ok (.iconst 1, 1) := by decide +kernel
theorem d_p7_16_11 : decode prog_7_method_16_code 11 = .ok (.isub, 1) := by decide +kernel
theorem d_p7_16_12 : decode prog_7_method_16_code 12 = .ok (.invokestatic 49, 3) := by decide +kernel
theorem d_p7_16_15 : decode prog_7_method_16_code 15 = .ok (.ifCond .ne 6, 3) := by decide +kernel
theorem d_p7_16_18 : decode prog_7_method_16_code 18 = .ok (.bipush (-2), 2) := by decide +kernel
theorem d_p7_16_20 : decode prog_7_method_16_code 20 = .ok (.ireturn, 1) := by decide +kernel
theorem d_p7_18_0 : decode prog_7_method_18_code 0 = .ok (.aload_n 0, 1) := by decide +kernel
theorem d_p7_18_1 : decode prog_7_method_18_code 1 = .ok (.invokevirtual 81, 3) := by decide +kernel
theorem d_p7_18_4 : decode prog_7_method_18_code 4 = .ok (.iload_n 1, 1) := by decide +kernel
theorem d_p7_18_5 : decode prog_7_method_18_code 5 = .ok (.iconst 0, 1) := by decide +kernel
theorem d_p7_18_6 : decode prog_7_method_18_code 6 = .ok (.aload_n 0, 1) := by decide +kernel
theorem d_p7_18_7 : decode prog_7_method_18_code 7 = .ok (.getfield 69, 3) := by decide +kernel
theorem d_p7_18_10 : decode prog_7_method_18_code 10 = .ok (.iconst 1, 1) := by decide +kernel
theorem d_p7_18_11 : decode prog_7_method_18_code 11 = .ok (.isub, 1) := by decide +kernel
theorem d_p7_18_12 : decode prog_7_method_18_code 12 = .ok (.invokestatic 49, 3) := by decide +kernel
theorem d_p7_18_15 : decode prog_7_method_18_code 15 = .ok (.ifCond .ne 6, 3) := by decide +kernel
theorem d_p7_18_18 : decode prog_7_method_18_code 18 = .ok (.bipush (-2), 2) := by decide +kernel
theorem d_p7_18_20 : decode prog_7_method_18_code 20 = .ok (.ireturn, 1) := by decide +kernel
theorem d_p7_19_0 : decode prog_7_method_19_code 0 = .ok (.aload_n 0, 1) := by decide +kernel
theorem d_p7_19_1 : decode prog_7_method_19_code 1 = .ok (.invokevirtual 81, 3) := by decide +kernel
theorem d_p7_19_4 : decode prog_7_method_19_code 4 = .ok (.aload_n 0, 1) := by decide +kernel
theorem d_p7_19_5 : decode prog_7_method_19_code 5 = .ok (.getfield 23, 3) := by decide +kernel
theorem d_p7_19_8 : decode prog_7_method_19_code 8 = .ok (.iconst 0, 1) := by decide +kernel
theorem d_p7_19_9 : decode prog_7_method_19_code 9 = .ok (.lconst 1, 1) := by decide +kernel
