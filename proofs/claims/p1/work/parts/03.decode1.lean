theorem d_p7_1_72 : decode prog_7_method_1_code 72 = .ok (.bipush 14, 2) := by decide +kernel
theorem d_p7_1_74 : decode prog_7_method_1_code 74 = .ok (.newarray .int, 2) := by decide +kernel
theorem d_p7_1_76 : decode prog_7_method_1_code 76 = .ok (.putfield 36, 3) := by decide +kernel
theorem d_p7_1_79 : decode prog_7_method_1_code 79 = .ok (.aload_n 0, 1) := by decide +kernel
theorem d_p7_1_80 : decode prog_7_method_1_code 80 = .ok (.bipush 14, 2) := by decide +kernel
theorem d_p7_1_82 : decode prog_7_method_1_code 82 = .ok (.newarray .boolean, 2) := by decide +kernel
theorem d_p7_1_84 : decode prog_7_method_1_code 84 = .ok (.putfield 39, 3) := by decide +kernel
theorem d_p7_1_87 : decode prog_7_method_1_code 87 = .ok (.aload_n 0, 1) := by decide +kernel
theorem d_p7_1_88 : decode prog_7_method_1_code 88 = .ok (.bipush 14, 2) := by decide +kernel
theorem d_p7_1_90 : decode prog_7_method_1_code 90 = .ok (.newarray .int, 2) := by decide +kernel
theorem d_p7_1_92 : decode prog_7_method_1_code 92 = .ok (.putfield 42, 3) := by decide +kernel
theorem d_p7_1_95 : decode prog_7_method_1_code 95 = .ok (.aload_n 0, 1) := by decide +kernel
theorem d_p7_1_96 : decode prog_7_method_1_code 96 = .ok (.iconst 0, 1) := by decide +kernel
theorem d_p7_1_97 : decode prog_7_method_1_code 97 = .ok (.putfield 45, 3) := by decide +kernel
theorem d_p7_1_100 : decode prog_7_method_1_code 100 = .ok (.return_, 1) := by decide +kernel
theorem d_p2_3_0 : decode prog_2_method_3_code 0 = .ok (.iload_n 1, 1) := by decide +kernel
theorem d_p2_3_1 : decode prog_2_method_3_code 1 = .ok (.ifCond .lt 15, 3) := by decide +kernel
theorem d_p2_3_16 : decode prog_2_method_3_code 16 = .ok (.iconst 0, 1) := by decide +kernel
theorem d_p2_3_17 : decode prog_2_method_3_code 17 = .ok (.ireturn, 1) := by decide +kernel
theorem d_p2_3_4 : decode prog_2_method_3_code 4 = .ok (.iload_n 1, 1) := by decide +kernel
theorem d_p2_3_5 : decode prog_2_method_3_code 5 = .ok (.aload_n 0, 1) := by decide +kernel
theorem d_p2_3_6 : decode prog_2_method_3_code 6 = .ok (.getfield 27, 3) := by decide +kernel
theorem d_p2_3_9 : decode prog_2_method_3_code 9 = .ok (.if_icmp .ge 7, 3) := by decide +kernel
theorem d_p2_4_0 : decode prog_2_method_4_code 0 = .ok (.iconst 1, 1) := by decide +kernel
theorem d_p2_4_1 : decode prog_2_method_4_code 1 = .ok (.aload_n 0, 1) := by decide +kernel
theorem d_p2_4_2 : decode prog_2_method_4_code 2 = .ok (.getfield 27, 3) := by decide +kernel
theorem d_p2_4_5 : decode prog_2_method_4_code 5 = .ok (.ishl, 1) := by decide +kernel
theorem d_p2_4_6 : decode prog_2_method_4_code 6 = .ok (.iconst 1, 1) := by decide +kernel
theorem d_p2_4_7 : decode prog_2_method_4_code 7 = .ok (.isub, 1) := by decide +kernel
theorem d_p2_4_8 : decode prog_2_method_4_code 8 = .ok (.ireturn, 1) := by decide +kernel
theorem d_p2_2_0 : decode prog_2_method_2_code 0 = .ok (.aload_n 0, 1) := by decide +kernel
theorem d_p2_2_1 : decode prog_2_method_2_code 1 = .ok (.getfield 9, 3) := by decide +kernel
theorem d_p2_2_4 : decode prog_2_method_2_code 4 = .ok (.iconst 0, 1) := by decide +kernel
theorem d_p2_2_5 : decode prog_2_method_2_code 5 = .ok (.invokestatic 21, 3) := by decide +kernel
theorem d_p2_2_8 : decode prog_2_method_2_code 8 = .ok (.aload_n 0, 1) := by decide +kernel
theorem d_p2_2_9 : decode prog_2_method_2_code 9 = .ok (.getfield 15, 3) := by decide +kernel
theorem d_p2_2_12 : decode prog_2_method_2_code 12 = .ok (.iconst 0, 1) := by decide +kernel
theorem d_p2_2_13 : decode prog_2_method_2_code 13 = .ok (.invokestatic 21, 3) := by decide +kernel
theorem d_p2_2_16 : decode prog_2_method_2_code 16 = .ok (.aload_n 0, 1) := by decide +kernel
theorem d_p2_2_17 : decode prog_2_method_2_code 17 = .ok (.getfield 18, 3) := by decide +kernel
theorem d_p2_2_20 : decode prog_2_method_2_code 20 = .ok (.iconst 0, 1) := by decide +kernel
theorem d_p2_2_21 : decode prog_2_method_2_code 21 = .ok (.invokestatic 21, 3) := by decide +kernel
theorem d_p2_2_24 : decode prog_2_method_2_code 24 = .ok (.aload_n 0, 1) := by decide +kernel
theorem d_p2_2_25 : decode prog_2_method_2_code 25 = .ok (.iconst 0, 1) := by decide +kernel
theorem d_p2_2_26 : decode prog_2_method_2_code 26 = .ok (.putfield 27, 3) := by decide +kernel
theorem d_p2_2_29 : decode prog_2_method_2_code 29 = .ok (.aload_n 0, 1) := by decide +kernel
theorem d_p2_2_30 : decode prog_2_method_2_code 30 = .ok (.iconst 0, 1) := by decide +kernel
theorem d_p2_2_31 : decode prog_2_method_2_code 31 = .ok (.putfield 31, 3) := by decide +kernel
theorem d_p2_2_34 : decode prog_2_method_2_code 34 = .ok (.return_, 1) := by decide +kernel
theorem d_p2_15_0 : decode prog_2_method_15_code 0 = .ok (.iconst 0, 1) := by decide +kernel
theorem d_p2_15_1 : decode prog_2_method_15_code 1 = .ok (.istore_n 1, 1) := by decide +kernel
theorem d_p2_15_2 : decode prog_2_method_15_code 2 = .ok (.iconst 0, 1) := by decide +kernel
theorem d_p2_15_3 : decode prog_2_method_15_code 3 = .ok (.istore_n 2, 1) := by decide +kernel
theorem d_p2_15_4 : decode prog_2_method_15_code 4 = .ok (.iload_n 2, 1) := by decide +kernel
theorem d_p2_15_5 : decode prog_2_method_15_code 5 = .ok (.aload_n 0, 1) := by decide +kernel
theorem d_p2_15_6 : decode prog_2_method_15_code 6 = .ok (.getfield 27, 3) := by decide +kernel
theorem d_p2_15_9 : decode prog_2_method_15_code 9 = .ok (.if_icmp .ge 46, 3) := by decide +kernel
theorem d_p2_15_55 : decode prog_2_method_15_code 55 = .ok (.iload_n 1, 1) := by decide +kernel
theorem d_p2_15_56 : decode prog_2_method_15_code 56 = .ok (.ireturn, 1) := by decide +kernel
theorem d_p2_17_0 : decode prog_2_method_17_code 0 = .ok (.iload_n 3, 1) := by decide +kernel
theorem d_p2_17_1 : decode prog_2_method_17_code 1 = .ok (.invokestatic 80, 3) := by decide +kernel
theorem d_p2_17_4 : decode prog_2_method_17_code 4 = .ok (.iload 4, 2) := by decide +kernel
theorem d_p2_17_6 : decode prog_2_method_17_code 6 = .ok (.invokestatic 80, 3) := by decide +kernel
theorem d_p2_17_9 : decode prog_2_method_17_code 9 = .ok (.if_icmp .lt 6, 3) := by decide +kernel
theorem d_p2_17_12 : decode prog_2_method_17_code 12 = .ok (.iload 4, 2) := by decide +kernel
theorem d_p2_17_14 : decode prog_2_method_17_code 14 = .ok (.ireturn, 1) := by decide +kernel
theorem d_p3_2_0 : decode prog_3_method_2_code 0 = .ok (.aload_n 0, 1) := by decide +kernel
theorem d_p3_2_1 : decode prog_3_method_2_code 1 = .ok (.iconst 0, 1) := by decide +kernel
theorem d_p3_2_2 : decode prog_3_method_2_code 2 = .ok (.putfield 15, 3) := by decide +kernel
theorem d_p3_2_5 : decode prog_3_method_2_code 5 = .ok (.iconst 0, 1) := by decide +kernel
theorem d_p3_2_6 : decode prog_3_method_2_code 6 = .ok (.istore_n 2, 1) := by decide +kernel
theorem d_p3_2_7 : decode prog_3_method_2_code 7 = .ok (.iload_n 2, 1) := by decide +kernel
theorem d_p3_2_8 : decode prog_3_method_2_code 8 = .ok (.aload_n 1, 1) := by decide +kernel
theorem d_p3_2_9 : decode prog_3_method_2_code 9 = .ok (.getfield 19, 3) := by decide +kernel
theorem d_p3_2_12 : decode prog_3_method_2_code 12 = .ok (.if_icmp .ge 25, 3) := by decide +kernel
theorem d_p3_2_37 : decode prog_3_method_2_code 37 = .ok (.return_, 1) := by decide +kernel
theorem d_p3_3_0 : decode prog_3_method_3_code 0 = .ok (.aload_n 0, 1) := by decide +kernel
theorem d_p3_3_1 : decode prog_3_method_3_code 1 = .ok (.iconst 0, 1) := by decide +kernel
theorem d_p3_3_2 : decode prog_3_method_3_code 2 = .ok (.putfield 15, 3) := by decide +kernel
theorem d_p3_3_5 : decode prog_3_method_3_code 5 = .ok (.iconst 0, 1) := by decide +kernel
theorem d_p3_3_6 : decode prog_3_method_3_code 6 = .ok (.istore_n 2, 1) := by decide +kernel
theorem d_p3_3_7 : decode prog_3_method_3_code 7 = .ok (.iload_n 2, 1) := by decide +kernel
theorem d_p3_3_8 : decode prog_3_method_3_code 8 = .ok (.aload_n 1, 1) := by decide +kernel
theorem d_p3_3_9 : decode prog_3_method_3_code 9 = .ok (.getfield 19, 3) := by decide +kernel
theorem d_p3_3_12 : decode prog_3_method_3_code 12 = .ok (.if_icmp .ge 19, 3) := by decide +kernel
theorem d_p3_3_31 : decode prog_3_method_3_code 31 = .ok (.return_, 1) := by decide +kernel
theorem d_p4_2_0 : decode prog_4_method_2_code 0 = .ok (.aload_n 0, 1) := by decide +kernel
theorem d_p4_2_1 : decode prog_4_method_2_code 1 = .ok (.aload_n 2, 1) := by decide +kernel
theorem d_p4_2_2 : decode prog_4_method_2_code 2 = .ok (.getfield 19, 3) := by decide +kernel
theorem d_p4_2_5 : decode prog_4_method_2_code 5 = .ok (.bipush 15, 2) := by decide +kernel
theorem d_p4_2_7 : decode prog_4_method_2_code 7 = .ok (.invokestatic 25, 3) := by decide +kernel
theorem d_p4_2_10 : decode prog_4_method_2_code 10 = .ok (.putfield 31, 3) := by decide +kernel
theorem d_p4_2_13 : decode prog_4_method_2_code 13 = .ok (.iconst 0, 1) := by decide +kernel
theorem d_p4_2_14 : decode prog_4_method_2_code 14 = .ok (.istore_n 3, 1) := by decide +kernel
theorem d_p4_2_15 : decode prog_4_method_2_code 15 = .ok (.iload_n 3, 1) := by decide +kernel
theorem d_p4_2_16 : decode prog_4_method_2_code 16 = .ok (.aload_n 0, 1) := by decide +kernel
theorem d_p4_2_17 : decode prog_4_method_2_code 17 = .ok (.getfield 31, 3) := by decide +kernel
theorem d_p4_2_20 : decode prog_4_method_2_code 20 = .ok (.if_icmp .ge 24, 3) := by decide +kernel
theorem d_p4_2_44 : decode prog_4_method_2_code 44 = .ok (.return_, 1) := by decide +kernel
theorem d_p4_4_0 : decode prog_4_method_4_code 0 = .ok (.iconst 1, 1) := by decide +kernel
theorem d_p4_4_1 : decode prog_4_method_4_code 1 = .ok (.aload_n 0, 1) := by decide +kernel
theorem d_p4_4_2 : decode prog_4_method_4_code 2 = .ok (.getfield 31, 3) := by decide +kernel
theorem d_p4_4_5 : decode prog_4_method_4_code 5 = .ok (.ishl, 1) := by decide +kernel
theorem d_p4_4_6 : decode prog_4_method_4_code 6 = .ok (.iconst 1, 1) := by decide +kernel
theorem d_p4_4_7 : decode prog_4_method_4_code 7 = .ok (.isub, 1) := by decide +kernel
theorem d_p4_4_8 : decode prog_4_method_4_code 8 = .ok (.ireturn, 1) := by decide +kernel
theorem d_p4_7_0 : decode prog_4_method_7_code 0 = .ok (.iconst 0, 1) := by decide +kernel
theorem d_p4_7_1 : decode prog_4_method_7_code 1 = .ok (.istore_n 1, 1) := by decide +kernel
theorem d_p4_7_2 : decode prog_4_method_7_code 2 = .ok (.iconst 0, 1) := by decide +kernel
theorem d_p4_7_3 : decode prog_4_method_7_code 3 = .ok (.istore_n 2, 1) := by decide +kernel
theorem d_p4_7_4 : decode prog_4_method_7_code 4 = .ok (.iload_n 1, 1) := by decide +kernel
theorem d_p4_7_5 : decode prog_4_method_7_code 5 = .ok (.aload_n 0, 1) := by decide +kernel
theorem d_p4_7_6 : decode prog_4_method_7_code 6 = .ok (.invokevirtual 69, 3) := by decide +kernel
theorem d_p4_7_9 : decode prog_4_method_7_code 9 = .ok (.if_icmp .eq 25, 3) := by decide +kernel
theorem d_p4_7_34 : decode prog_4_method_7_code 34 = .ok (.iload_n 2, 1) := by decide +kernel
theorem d_p4_7_35 : decode prog_4_method_7_code 35 = .ok (.ireturn, 1) := by decide +kernel
theorem d_p4_8_0 : decode prog_4_method_8_code 0 = .ok (.aload_n 0, 1) := by decide +kernel
theorem d_p4_8_1 : decode prog_4_method_8_code 1 = .ok (.invokevirtual 69, 3) := by decide +kernel
theorem d_p4_8_4 : decode prog_4_method_8_code 4 = .ok (.istore_n 1, 1) := by decide +kernel
theorem d_p4_8_5 : decode prog_4_method_8_code 5 = .ok (.aload_n 0, 1) := by decide +kernel
theorem d_p4_8_6 : decode prog_4_method_8_code 6 = .ok (.getfield 15, 3) := by decide +kernel
theorem d_p4_8_9 : decode prog_4_method_8_code 9 = .ok (.arraylength, 1) := by decide +kernel
theorem d_p4_8_10 : decode prog_4_method_8_code 10 = .ok (.iload_n 1, 1) := by decide +kernel
theorem d_p4_8_11 : decode prog_4_method_8_code 11 = .ok (.if_icmp .gt 12, 3) := by decide +kernel
theorem d_p4_8_23 : decode prog_4_method_8_code 23 = .ok (.aload_n 0, 1) := by decide +kernel
theorem d_p4_8_24 : decode prog_4_method_8_code 24 = .ok (.getfield 15, 3) := by decide +kernel
theorem d_p4_8_27 : decode prog_4_method_8_code 27 = .ok (.lconst 0, 1) := by decide +kernel
theorem d_p4_8_28 : decode prog_4_method_8_code 28 = .ok (.invokestatic 73, 3) := by decide +kernel
theorem d_p4_8_31 : decode prog_4_method_8_code 31 = .ok (.aload_n 0, 1) := by decide +kernel
theorem d_p4_8_32 : decode prog_4_method_8_code 32 = .ok (.getfield 15, 3) := by decide +kernel
theorem d_p4_8_35 : decode prog_4_method_8_code 35 = .ok (.iconst 0, 1) := by decide +kernel
theorem d_p4_8_36 : decode prog_4_method_8_code 36 = .ok (.lconst 1, 1) := by decide +kernel
theorem d_p4_8_37 : decode prog_4_method_8_code 37 = .ok (.lastore, 1) := by decide +kernel
theorem d_p4_8_38 : decode prog_4_method_8_code 38 = .ok (.iconst 0, 1) := by decide +kernel
theorem d_p4_8_39 : decode prog_4_method_8_code 39 = .ok (.istore_n 2, 1) := by decide +kernel
theorem d_p4_8_40 : decode prog_4_method_8_code 40 = .ok (.iload_n 2, 1) := by decide +kernel
theorem d_p4_8_41 : decode prog_4_method_8_code 41 = .ok (.iload_n 1, 1) := by decide +kernel
theorem d_p4_8_42 : decode prog_4_method_8_code 42 = .ok (.if_icmp .ge 40, 3) := by decide +kernel
theorem d_p4_8_82 : decode prog_4_method_8_code 82 = .ok (.iload_n 1, 1) := by decide +kernel
theorem d_p4_8_83 : decode prog_4_method_8_code 83 = .ok (.aload_n 0, 1) := by decide +kernel
theorem d_p4_8_84 : decode prog_4_method_8_code 84 = .ok (.getfield 15, 3) := by decide +kernel
theorem d_p4_8_87 : decode prog_4_method_8_code 87 = .ok (.arraylength, 1) := by decide +kernel
theorem d_p4_8_88 : decode prog_4_method_8_code 88 = .ok (.if_icmp .ge 12, 3) := by decide +kernel
theorem d_p4_8_91 : decode prog_4_method_8_code 91 = .ok (.aload_n 0, 1) := by decide +kernel
theorem d_p4_8_92 : decode prog_4_method_8_code 92 = .ok (.getfield 15, 3) := by decide +kernel
theorem d_p4_8_95 : decode prog_4_method_8_code 95 = .ok (.iload_n 1, 1) := by decide +kernel
theorem d_p4_8_96 : decode prog_4_method_8_code 96 = .ok (.laload, 1) := by decide +kernel
theorem d_p4_8_97 : decode prog_4_method_8_code 97 = .ok (.goto 4, 3) := by decide +kernel
theorem d_p4_8_101 : decode prog_4_method_8_code 101 = .ok (.lreturn, 1) := by decide +kernel
theorem d_p4_10_0 : decode prog_4_method_10_code 0 = .ok (.aload_n 0, 1) := by decide +kernel
theorem d_p4_10_1 : decode prog_4_method_10_code 1 = .ok (.getfield 31, 3) := by decide +kernel
theorem d_p4_10_4 : decode prog_4_method_10_code 4 = .ok (.iconst 1, 1) := by decide +kernel
theorem d_p4_10_5 : decode prog_4_method_10_code 5 = .ok (.if_icmp .gt 5, 3) := by decide +kernel
theorem d_p4_10_8 : decode prog_4_method_10_code 8 = .ok (.iconst 0, 1) := by decide +kernel
theorem d_p4_10_9 : decode prog_4_method_10_code 9 = .ok (.ireturn, 1) := by decide +kernel
theorem d_p1_29_0 : decode prog_1_method_29_code 0 = .ok (.aload_n 0, 1) := by decide +kernel
theorem d_p1_29_1 : decode prog_1_method_29_code 1 = .ok (.getfield 10, 3) := by decide +kernel
theorem d_p1_29_4 : decode prog_1_method_29_code 4 = .ok (.iload_n 1, 1) := by decide +kernel
theorem d_p1_29_5 : decode prog_1_method_29_code 5 = .ok (.invokevirtual 68, 3) := by decide +kernel
theorem d_p1_29_8 : decode prog_1_method_29_code 8 = .ok (.ifCond .eq 18, 3) := by decide +kernel
theorem d_p1_29_26 : decode prog_1_method_29_code 26 = .ok (.iconst 0, 1) := by decide +kernel
theorem d_p1_29_27 : decode prog_1_method_29_code 27 = .ok (.ireturn, 1) := by decide +kernel
theorem d_p1_30_0 : decode prog_1_method_30_code 0 = .ok (.aload_n 0, 1) := by decide +kernel
theorem d_p1_30_1 : decode prog_1_method_30_code 1 = .ok (.getfield 19, 3) := by decide +kernel
theorem d_p1_30_4 : decode prog_1_method_30_code 4 = .ok (.aload_n 0, 1) := by decide +kernel
theorem d_p1_30_5 : decode prog_1_method_30_code 5 = .ok (.getfield 10, 3) := by decide +kernel
theorem d_p1_30_8 : decode prog_1_method_30_code 8 = .ok (.invokevirtual 61, 3) := by decide +kernel
theorem d_p1_30_11 : decode prog_1_method_30_code 11 = .ok (.aload_n 0, 1) := by decide +kernel
theorem d_p1_30_12 : decode prog_1_method_30_code 12 = .ok (.getfield 26, 3) := by decide +kernel
theorem d_p1_30_15 : decode prog_1_method_30_code 15 = .ok (.aload_n 0, 1) := by decide +kernel
