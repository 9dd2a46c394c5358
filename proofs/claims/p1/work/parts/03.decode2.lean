theorem d_p1_30_16 : decode prog_1_method_30_code 16 = .ok (.getfield 10, 3) := by decide +kernel
theorem d_p1_30_19 : decode prog_1_method_30_code 19 = .ok (.aload_n 0, 1) := by decide +kernel
theorem d_p1_30_20 : decode prog_1_method_30_code 20 = .ok (.getfield 19, 3) := by decide +kernel
theorem d_p1_30_23 : decode prog_1_method_30_code 23 = .ok (.invokevirtual 164, 3) := by decide +kernel
theorem d_p1_30_26 : decode prog_1_method_30_code 26 = .ok (.return_, 1) := by decide +kernel
theorem d_p1_31_0 : decode prog_1_method_31_code 0 = .ok (.iconst (-1), 1) := by decide +kernel
theorem d_p1_31_1 : decode prog_1_method_31_code 1 = .ok (.istore_n 1, 1) := by decide +kernel
theorem d_p1_31_2 : decode prog_1_method_31_code 2 = .ok (.iconst 0, 1) := by decide +kernel
theorem d_p1_31_3 : decode prog_1_method_31_code 3 = .ok (.istore_n 2, 1) := by decide +kernel
theorem d_p1_31_4 : decode prog_1_method_31_code 4 = .ok (.iload_n 2, 1) := by decide +kernel
theorem d_p1_31_5 : decode prog_1_method_31_code 5 = .ok (.aload_n 0, 1) := by decide +kernel
theorem d_p1_31_6 : decode prog_1_method_31_code 6 = .ok (.getfield 10, 3) := by decide +kernel
theorem d_p1_31_9 : decode prog_1_method_31_code 9 = .ok (.getfield 37, 3) := by decide +kernel
theorem d_p1_31_12 : decode prog_1_method_31_code 12 = .ok (.if_icmp .ge 53, 3) := by decide +kernel
theorem d_p1_31_65 : decode prog_1_method_31_code 65 = .ok (.iload_n 1, 1) := by decide +kernel
theorem d_p1_31_66 : decode prog_1_method_31_code 66 = .ok (.ireturn, 1) := by decide +kernel
theorem d_p1_2_0 : decode prog_1_method_2_code 0 = .ok (.aload_n 0, 1) := by decide +kernel
theorem d_p1_2_1 : decode prog_1_method_2_code 1 = .ok (.getfield 10, 3) := by decide +kernel
theorem d_p1_2_4 : decode prog_1_method_2_code 4 = .ok (.getfield 37, 3) := by decide +kernel
theorem d_p1_2_7 : decode prog_1_method_2_code 7 = .ok (.istore_n 1, 1) := by decide +kernel
theorem d_p1_2_8 : decode prog_1_method_2_code 8 = .ok (.aload_n 0, 1) := by decide +kernel
theorem d_p1_2_9 : decode prog_1_method_2_code 9 = .ok (.getfield 10, 3) := by decide +kernel
theorem d_p1_2_12 : decode prog_1_method_2_code 12 = .ok (.invokevirtual 41, 3) := by decide +kernel
theorem d_p1_2_15 : decode prog_1_method_2_code 15 = .ok (.iload_n 1, 1) := by decide +kernel
theorem d_p1_2_16 : decode prog_1_method_2_code 16 = .ok (.ireturn, 1) := by decide +kernel
theorem d_p1_3_0 : decode prog_1_method_3_code 0 = .ok (.aload_n 0, 1) := by decide +kernel
theorem d_p1_3_1 : decode prog_1_method_3_code 1 = .ok (.getfield 10, 3) := by decide +kernel
theorem d_p1_3_4 : decode prog_1_method_3_code 4 = .ok (.getfield 37, 3) := by decide +kernel
theorem d_p1_3_7 : decode prog_1_method_3_code 7 = .ok (.bipush 15, 2) := by decide +kernel
theorem d_p1_3_9 : decode prog_1_method_3_code 9 = .ok (.if_icmp .lt 6, 3) := by decide +kernel
theorem d_p1_3_15 : decode prog_1_method_3_code 15 = .ok (.aload_n 0, 1) := by decide +kernel
theorem d_p1_3_16 : decode prog_1_method_3_code 16 = .ok (.getfield 10, 3) := by decide +kernel
theorem d_p1_3_19 : decode prog_1_method_3_code 19 = .ok (.dup, 1) := by decide +kernel
theorem d_p1_3_20 : decode prog_1_method_3_code 20 = .ok (.getfield 37, 3) := by decide +kernel
theorem d_p1_3_23 : decode prog_1_method_3_code 23 = .ok (.iconst 1, 1) := by decide +kernel
theorem d_p1_3_24 : decode prog_1_method_3_code 24 = .ok (.iadd, 1) := by decide +kernel
theorem d_p1_3_25 : decode prog_1_method_3_code 25 = .ok (.putfield 37, 3) := by decide +kernel
theorem d_p1_3_28 : decode prog_1_method_3_code 28 = .ok (.aload_n 0, 1) := by decide +kernel
theorem d_p1_3_29 : decode prog_1_method_3_code 29 = .ok (.getfield 10, 3) := by decide +kernel
theorem d_p1_3_32 : decode prog_1_method_3_code 32 = .ok (.getfield 37, 3) := by decide +kernel
theorem d_p1_3_35 : decode prog_1_method_3_code 35 = .ok (.iconst 1, 1) := by decide +kernel
theorem d_p1_3_36 : decode prog_1_method_3_code 36 = .ok (.isub, 1) := by decide +kernel
theorem d_p1_3_37 : decode prog_1_method_3_code 37 = .ok (.ireturn, 1) := by decide +kernel
theorem d_p1_4_0 : decode prog_1_method_4_code 0 = .ok (.aload_n 0, 1) := by decide +kernel
theorem d_p1_4_1 : decode prog_1_method_4_code 1 = .ok (.iload_n 1, 1) := by decide +kernel
theorem d_p1_4_2 : decode prog_1_method_4_code 2 = .ok (.iload_n 2, 1) := by decide +kernel
theorem d_p1_4_3 : decode prog_1_method_4_code 3 = .ok (.invokevirtual 44, 3) := by decide +kernel
theorem d_p1_4_6 : decode prog_1_method_4_code 6 = .ok (.ifCond .eq 8, 3) := by decide +kernel
theorem d_p1_4_14 : decode prog_1_method_4_code 14 = .ok (.bipush (-2), 2) := by decide +kernel
theorem d_p1_4_16 : decode prog_1_method_4_code 16 = .ok (.ireturn, 1) := by decide +kernel
theorem d_p1_5_0 : decode prog_1_method_5_code 0 = .ok (.aload_n 0, 1) := by decide +kernel
theorem d_p1_5_1 : decode prog_1_method_5_code 1 = .ok (.iload_n 1, 1) := by decide +kernel
theorem d_p1_5_2 : decode prog_1_method_5_code 2 = .ok (.iload_n 2, 1) := by decide +kernel
theorem d_p1_5_3 : decode prog_1_method_5_code 3 = .ok (.invokevirtual 44, 3) := by decide +kernel
theorem d_p1_5_6 : decode prog_1_method_5_code 6 = .ok (.ifCond .eq 8, 3) := by decide +kernel
theorem d_p1_5_14 : decode prog_1_method_5_code 14 = .ok (.bipush (-2), 2) := by decide +kernel
theorem d_p1_5_16 : decode prog_1_method_5_code 16 = .ok (.ireturn, 1) := by decide +kernel
theorem d_p1_12_0 : decode prog_1_method_12_code 0 = .ok (.aload_n 0, 1) := by decide +kernel
theorem d_p1_12_1 : decode prog_1_method_12_code 1 = .ok (.iload_n 1, 1) := by decide +kernel
theorem d_p1_12_2 : decode prog_1_method_12_code 2 = .ok (.iload_n 2, 1) := by decide +kernel
theorem d_p1_12_3 : decode prog_1_method_12_code 3 = .ok (.invokevirtual 44, 3) := by decide +kernel
theorem d_p1_12_6 : decode prog_1_method_12_code 6 = .ok (.ifCond .ne 6, 3) := by decide +kernel
theorem d_p1_12_9 : decode prog_1_method_12_code 9 = .ok (.bipush (-2), 2) := by decide +kernel
theorem d_p1_12_11 : decode prog_1_method_12_code 11 = .ok (.ireturn, 1) := by decide +kernel
theorem d_p1_24_0 : decode prog_1_method_24_code 0 = .ok (.aload_n 0, 1) := by decide +kernel
theorem d_p1_24_1 : decode prog_1_method_24_code 1 = .ok (.iload_n 1, 1) := by decide +kernel
theorem d_p1_24_2 : decode prog_1_method_24_code 2 = .ok (.iload_n 2, 1) := by decide +kernel
theorem d_p1_24_3 : decode prog_1_method_24_code 3 = .ok (.invokevirtual 44, 3) := by decide +kernel
theorem d_p1_24_6 : decode prog_1_method_24_code 6 = .ok (.ifCond .ne 6, 3) := by decide +kernel
theorem d_p1_24_9 : decode prog_1_method_24_code 9 = .ok (.bipush (-2), 2) := by decide +kernel
theorem d_p1_24_11 : decode prog_1_method_24_code 11 = .ok (.ireturn, 1) := by decide +kernel
theorem d_p1_25_0 : decode prog_1_method_25_code 0 = .ok (.aload_n 0, 1) := by decide +kernel
theorem d_p1_25_1 : decode prog_1_method_25_code 1 = .ok (.iload_n 1, 1) := by decide +kernel
theorem d_p1_25_2 : decode prog_1_method_25_code 2 = .ok (.iload_n 2, 1) := by decide +kernel
theorem d_p1_25_3 : decode prog_1_method_25_code 3 = .ok (.invokevirtual 44, 3) := by decide +kernel
theorem d_p1_25_6 : decode prog_1_method_25_code 6 = .ok (.ifCond .ne 6, 3) := by decide +kernel
theorem d_p1_25_9 : decode prog_1_method_25_code 9 = .ok (.bipush (-2), 2) := by decide +kernel
theorem d_p1_25_11 : decode prog_1_method_25_code 11 = .ok (.ireturn, 1) := by decide +kernel
theorem d_p1_26_0 : decode prog_1_method_26_code 0 = .ok (.aload_n 0, 1) := by decide +kernel
theorem d_p1_26_1 : decode prog_1_method_26_code 1 = .ok (.iload_n 1, 1) := by decide +kernel
theorem d_p1_26_2 : decode prog_1_method_26_code 2 = .ok (.iload_n 2, 1) := by decide +kernel
theorem d_p1_26_3 : decode prog_1_method_26_code 3 = .ok (.invokevirtual 44, 3) := by decide +kernel
theorem d_p1_26_6 : decode prog_1_method_26_code 6 = .ok (.ifCond .ne 6, 3) := by decide +kernel
theorem d_p1_26_9 : decode prog_1_method_26_code 9 = .ok (.bipush (-2), 2) := by decide +kernel
theorem d_p1_26_11 : decode prog_1_method_26_code 11 = .ok (.ireturn, 1) := by decide +kernel
theorem d_p1_13_0 : decode prog_1_method_13_code 0 = .ok (.aload_n 0, 1) := by decide +kernel
theorem d_p1_13_1 : decode prog_1_method_13_code 1 = .ok (.iload_n 1, 1) := by decide +kernel
theorem d_p1_13_2 : decode prog_1_method_13_code 2 = .ok (.iload_n 2, 1) := by decide +kernel
theorem d_p1_13_3 : decode prog_1_method_13_code 3 = .ok (.invokevirtual 44, 3) := by decide +kernel
theorem d_p1_13_6 : decode prog_1_method_13_code 6 = .ok (.ifCond .ne 6, 3) := by decide +kernel
theorem d_p1_13_9 : decode prog_1_method_13_code 9 = .ok (.bipush (-2), 2) := by decide +kernel
theorem d_p1_13_11 : decode prog_1_method_13_code 11 = .ok (.ireturn, 1) := by decide +kernel
theorem d_p1_14_0 : decode prog_1_method_14_code 0 = .ok (.aload_n 0, 1) := by decide +kernel
theorem d_p1_14_1 : decode prog_1_method_14_code 1 = .ok (.getfield 10, 3) := by decide +kernel
theorem d_p1_14_4 : decode prog_1_method_14_code 4 = .ok (.iload_n 1, 1) := by decide +kernel
theorem d_p1_14_5 : decode prog_1_method_14_code 5 = .ok (.invokevirtual 68, 3) := by decide +kernel
theorem d_p1_14_8 : decode prog_1_method_14_code 8 = .ok (.ifCond .eq 12, 3) := by decide +kernel
theorem d_p1_14_20 : decode prog_1_method_14_code 20 = .ok (.bipush (-2), 2) := by decide +kernel
theorem d_p1_14_22 : decode prog_1_method_14_code 22 = .ok (.ireturn, 1) := by decide +kernel
theorem d_p1_7_0 : decode prog_1_method_7_code 0 = .ok (.aload_n 0, 1) := by decide +kernel
theorem d_p1_7_1 : decode prog_1_method_7_code 1 = .ok (.getfield 10, 3) := by decide +kernel
theorem d_p1_7_4 : decode prog_1_method_7_code 4 = .ok (.iload_n 1, 1) := by decide +kernel
theorem d_p1_7_5 : decode prog_1_method_7_code 5 = .ok (.invokevirtual 68, 3) := by decide +kernel
theorem d_p1_7_8 : decode prog_1_method_7_code 8 = .ok (.ifCond .ne 6, 3) := by decide +kernel
theorem d_p1_7_11 : decode prog_1_method_7_code 11 = .ok (.bipush (-2), 2) := by decide +kernel
theorem d_p1_7_13 : decode prog_1_method_7_code 13 = .ok (.ireturn, 1) := by decide +kernel
theorem d_p1_15_0 : decode prog_1_method_15_code 0 = .ok (.aload_n 0, 1) := by decide +kernel
theorem d_p1_15_1 : decode prog_1_method_15_code 1 = .ok (.getfield 10, 3) := by decide +kernel
theorem d_p1_15_4 : decode prog_1_method_15_code 4 = .ok (.iload_n 1, 1) := by decide +kernel
theorem d_p1_15_5 : decode prog_1_method_15_code 5 = .ok (.invokevirtual 68, 3) := by decide +kernel
theorem d_p1_15_8 : decode prog_1_method_15_code 8 = .ok (.ifCond .ne 6, 3) := by decide +kernel
theorem d_p1_15_11 : decode prog_1_method_15_code 11 = .ok (.bipush (-2), 2) := by decide +kernel
theorem d_p1_15_13 : decode prog_1_method_15_code 13 = .ok (.ireturn, 1) := by decide +kernel
theorem d_p1_17_0 : decode prog_1_method_17_code 0 = .ok (.aload_n 0, 1) := by decide +kernel
theorem d_p1_17_1 : decode prog_1_method_17_code 1 = .ok (.getfield 10, 3) := by decide +kernel
theorem d_p1_17_4 : decode prog_1_method_17_code 4 = .ok (.iload_n 1, 1) := by decide +kernel
theorem d_p1_17_5 : decode prog_1_method_17_code 5 = .ok (.invokevirtual 68, 3) := by decide +kernel
theorem d_p1_17_8 : decode prog_1_method_17_code 8 = .ok (.ifCond .ne 6, 3) := by decide +kernel
theorem d_p1_17_11 : decode prog_1_method_17_code 11 = .ok (.bipush (-2), 2) := by decide +kernel
theorem d_p1_17_13 : decode prog_1_method_17_code 13 = .ok (.ireturn, 1) := by decide +kernel
theorem d_p1_18_0 : decode prog_1_method_18_code 0 = .ok (.aload_n 0, 1) := by decide +kernel
theorem d_p1_18_1 : decode prog_1_method_18_code 1 = .ok (.getfield 10, 3) := by decide +kernel
theorem d_p1_18_4 : decode prog_1_method_18_code 4 = .ok (.iload_n 1, 1) := by decide +kernel
theorem d_p1_18_5 : decode prog_1_method_18_code 5 = .ok (.invokevirtual 68, 3) := by decide +kernel
theorem d_p1_18_8 : decode prog_1_method_18_code 8 = .ok (.ifCond .ne 6, 3) := by decide +kernel
theorem d_p1_18_11 : decode prog_1_method_18_code 11 = .ok (.bipush (-2), 2) := by decide +kernel
theorem d_p1_18_13 : decode prog_1_method_18_code 13 = .ok (.ireturn, 1) := by decide +kernel
theorem d_p1_6_0 : decode prog_1_method_6_code 0 = .ok (.aload_n 0, 1) := by decide +kernel
theorem d_p1_6_1 : decode prog_1_method_6_code 1 = .ok (.getfield 19, 3) := by decide +kernel
theorem d_p1_6_4 : decode prog_1_method_6_code 4 = .ok (.aload_n 0, 1) := by decide +kernel
theorem d_p1_6_5 : decode prog_1_method_6_code 5 = .ok (.getfield 10, 3) := by decide +kernel
theorem d_p1_6_8 : decode prog_1_method_6_code 8 = .ok (.invokevirtual 61, 3) := by decide +kernel
theorem d_p1_6_11 : decode prog_1_method_6_code 11 = .ok (.aload_n 0, 1) := by decide +kernel
theorem d_p1_6_12 : decode prog_1_method_6_code 12 = .ok (.getfield 19, 3) := by decide +kernel
theorem d_p1_6_15 : decode prog_1_method_6_code 15 = .ok (.getfield 65, 3) := by decide +kernel
theorem d_p1_6_18 : decode prog_1_method_6_code 18 = .ok (.ireturn, 1) := by decide +kernel
theorem d_p1_16_0 : decode prog_1_method_16_code 0 = .ok (.aload_n 0, 1) := by decide +kernel
theorem d_p1_16_1 : decode prog_1_method_16_code 1 = .ok (.getfield 19, 3) := by decide +kernel
theorem d_p1_16_4 : decode prog_1_method_16_code 4 = .ok (.aload_n 0, 1) := by decide +kernel
theorem d_p1_16_5 : decode prog_1_method_16_code 5 = .ok (.getfield 10, 3) := by decide +kernel
theorem d_p1_16_8 : decode prog_1_method_16_code 8 = .ok (.invokevirtual 125, 3) := by decide +kernel
theorem d_p1_16_11 : decode prog_1_method_16_code 11 = .ok (.aload_n 0, 1) := by decide +kernel
theorem d_p1_16_12 : decode prog_1_method_16_code 12 = .ok (.getfield 19, 3) := by decide +kernel
theorem d_p1_16_15 : decode prog_1_method_16_code 15 = .ok (.getfield 65, 3) := by decide +kernel
theorem d_p1_16_18 : decode prog_1_method_16_code 18 = .ok (.ireturn, 1) := by decide +kernel
theorem d_p1_8_0 : decode prog_1_method_8_code 0 = .ok (.aload_n 0, 1) := by decide +kernel
theorem d_p1_8_1 : decode prog_1_method_8_code 1 = .ok (.getfield 19, 3) := by decide +kernel
theorem d_p1_8_4 : decode prog_1_method_8_code 4 = .ok (.aload_n 0, 1) := by decide +kernel
theorem d_p1_8_5 : decode prog_1_method_8_code 5 = .ok (.getfield 10, 3) := by decide +kernel
theorem d_p1_8_8 : decode prog_1_method_8_code 8 = .ok (.invokevirtual 61, 3) := by decide +kernel
theorem d_p1_8_11 : decode prog_1_method_8_code 11 = .ok (.iload_n 1, 1) := by decide +kernel
theorem d_p1_8_12 : decode prog_1_method_8_code 12 = .ok (.ifCond .lt 14, 3) := by decide +kernel
theorem d_p1_8_26 : decode prog_1_method_8_code 26 = .ok (.bipush (-2), 2) := by decide +kernel
theorem d_p1_8_28 : decode prog_1_method_8_code 28 = .ok (.ireturn, 1) := by decide +kernel
theorem d_p1_8_15 : decode prog_1_method_8_code 15 = .ok (.iload_n 1, 1) := by decide +kernel
theorem d_p1_8_16 : decode prog_1_method_8_code 16 = .ok (.aload_n 0, 1) := by decide +kernel
theorem d_p1_8_17 : decode prog_1_method_8_code 17 = .ok (.getfield 19, 3) := by decide +kernel
theorem d_p1_8_20 : decode prog_1_method_8_code 20 = .ok (.getfield 65, 3) := by decide +kernel
theorem d_p1_8_23 : decode prog_1_method_8_code 23 = .ok (.if_icmp .lt 6, 3) := by decide +kernel
theorem d_p1_9_0 : decode prog_1_method_9_code 0 = .ok (.aload_n 0, 1) := by decide +kernel
theorem d_p1_9_1 : decode prog_1_method_9_code 1 = .ok (.invokevirtual 84, 3) := by decide +kernel
theorem d_p1_9_4 : decode prog_1_method_9_code 4 = .ok (.iload_n 1, 1) := by decide +kernel
theorem d_p1_9_5 : decode prog_1_method_9_code 5 = .ok (.ifCond .lt 14, 3) := by decide +kernel
theorem d_p1_9_19 : decode prog_1_method_9_code 19 = .ok (.bipush (-2), 2) := by decide +kernel
theorem d_p1_9_21 : decode prog_1_method_9_code 21 = .ok (.ireturn, 1) := by decide +kernel
theorem d_p1_9_8 : decode prog_1_method_9_code 8 = .ok (.iload_n 1, 1) := by decide +kernel
theorem d_p1_9_9 : decode prog_1_method_9_code 9 = .ok (.aload_n 0, 1) := by decide +kernel
theorem d_p1_9_10 : decode prog_1_method_9_code 10 = .ok (.getfield 26, 3) := by decide +kernel
theorem d_p1_9_13 : decode prog_1_method_9_code 13 = .ok (.getfield 87, 3) := by decide +kernel
theorem d_p1_9_16 : decode prog_1_method_9_code 16 = .ok (.if_icmp .lt 6, 3) := by decide +kernel
