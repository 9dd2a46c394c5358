theorem d_p1_10_0 : decode prog_1_method_10_code 0 = .ok (.aload_n 0, 1) := by decide +kernel
theorem d_p1_10_1 : decode prog_1_method_10_code 1 = .ok (.invokevirtual 84, 3) := by decide +kernel
theorem d_p1_10_4 : decode prog_1_method_10_code 4 = .ok (.aload_n 0, 1) := by decide +kernel
theorem d_p1_10_5 : decode prog_1_method_10_code 5 = .ok (.getfield 26, 3) := by decide +kernel
theorem d_p1_10_8 : decode prog_1_method_10_code 8 = .ok (.invokevirtual 91, 3) := by decide +kernel
theorem d_p1_10_11 : decode prog_1_method_10_code 11 = .ok (.lreturn, 1) := by decide +kernel
theorem d_p1_11_0 : decode prog_1_method_11_code 0 = .ok (.aload_n 0, 1) := by decide +kernel
theorem d_p1_11_1 : decode prog_1_method_11_code 1 = .ok (.invokevirtual 84, 3) := by decide +kernel
theorem d_p1_11_4 : decode prog_1_method_11_code 4 = .ok (.aload_n 0, 1) := by decide +kernel
theorem d_p1_11_5 : decode prog_1_method_11_code 5 = .ok (.getfield 26, 3) := by decide +kernel
theorem d_p1_11_8 : decode prog_1_method_11_code 8 = .ok (.invokevirtual 95, 3) := by decide +kernel
theorem d_p1_11_11 : decode prog_1_method_11_code 11 = .ok (.ireturn, 1) := by decide +kernel
theorem d_p1_19_0 : decode prog_1_method_19_code 0 = .ok (.aload_n 0, 1) := by decide +kernel
theorem d_p1_19_1 : decode prog_1_method_19_code 1 = .ok (.invokevirtual 131, 3) := by decide +kernel
theorem d_p1_19_4 : decode prog_1_method_19_code 4 = .ok (.ireturn, 1) := by decide +kernel
theorem d_p1_20_0 : decode prog_1_method_20_code 0 = .ok (.aload_n 0, 1) := by decide +kernel
theorem d_p1_20_1 : decode prog_1_method_20_code 1 = .ok (.invokevirtual 131, 3) := by decide +kernel
theorem d_p1_20_4 : decode prog_1_method_20_code 4 = .ok (.istore_n 2, 1) := by decide +kernel
theorem d_p1_20_5 : decode prog_1_method_20_code 5 = .ok (.iload_n 1, 1) := by decide +kernel
theorem d_p1_20_6 : decode prog_1_method_20_code 6 = .ok (.ifCond .lt 8, 3) := by decide +kernel
theorem d_p1_20_14 : decode prog_1_method_20_code 14 = .ok (.iconst (-1), 1) := by decide +kernel
theorem d_p1_20_15 : decode prog_1_method_20_code 15 = .ok (.ireturn, 1) := by decide +kernel
theorem d_p1_20_9 : decode prog_1_method_20_code 9 = .ok (.iload_n 1, 1) := by decide +kernel
theorem d_p1_20_10 : decode prog_1_method_20_code 10 = .ok (.iload_n 2, 1) := by decide +kernel
theorem d_p1_20_11 : decode prog_1_method_20_code 11 = .ok (.if_icmp .lt 5, 3) := by decide +kernel
theorem d_p1_21_0 : decode prog_1_method_21_code 0 = .ok (.aload_n 0, 1) := by decide +kernel
theorem d_p1_21_1 : decode prog_1_method_21_code 1 = .ok (.invokevirtual 84, 3) := by decide +kernel
theorem d_p1_21_4 : decode prog_1_method_21_code 4 = .ok (.aload_n 0, 1) := by decide +kernel
theorem d_p1_21_5 : decode prog_1_method_21_code 5 = .ok (.getfield 26, 3) := by decide +kernel
theorem d_p1_21_8 : decode prog_1_method_21_code 8 = .ok (.invokevirtual 140, 3) := by decide +kernel
theorem d_p1_21_11 : decode prog_1_method_21_code 11 = .ok (.ireturn, 1) := by decide +kernel
theorem d_p1_22_0 : decode prog_1_method_22_code 0 = .ok (.iconst 0, 1) := by decide +kernel
theorem d_p1_22_1 : decode prog_1_method_22_code 1 = .ok (.istore_n 1, 1) := by decide +kernel
theorem d_p1_22_2 : decode prog_1_method_22_code 2 = .ok (.iconst 0, 1) := by decide +kernel
theorem d_p1_22_3 : decode prog_1_method_22_code 3 = .ok (.istore_n 2, 1) := by decide +kernel
theorem d_p1_22_4 : decode prog_1_method_22_code 4 = .ok (.iload_n 2, 1) := by decide +kernel
theorem d_p1_22_5 : decode prog_1_method_22_code 5 = .ok (.aload_n 0, 1) := by decide +kernel
theorem d_p1_22_6 : decode prog_1_method_22_code 6 = .ok (.getfield 10, 3) := by decide +kernel
theorem d_p1_22_9 : decode prog_1_method_22_code 9 = .ok (.getfield 37, 3) := by decide +kernel
theorem d_p1_22_12 : decode prog_1_method_22_code 12 = .ok (.if_icmp .ge 34, 3) := by decide +kernel
theorem d_p1_22_46 : decode prog_1_method_22_code 46 = .ok (.iload_n 1, 1) := by decide +kernel
theorem d_p1_22_47 : decode prog_1_method_22_code 47 = .ok (.ireturn, 1) := by decide +kernel
theorem d_p1_23_0 : decode prog_1_method_23_code 0 = .ok (.iconst 0, 1) := by decide +kernel
theorem d_p1_23_1 : decode prog_1_method_23_code 1 = .ok (.istore_n 1, 1) := by decide +kernel
theorem d_p1_23_2 : decode prog_1_method_23_code 2 = .ok (.iload_n 1, 1) := by decide +kernel
theorem d_p1_23_3 : decode prog_1_method_23_code 3 = .ok (.aload_n 0, 1) := by decide +kernel
theorem d_p1_23_4 : decode prog_1_method_23_code 4 = .ok (.getfield 10, 3) := by decide +kernel
theorem d_p1_23_7 : decode prog_1_method_23_code 7 = .ok (.getfield 37, 3) := by decide +kernel
theorem d_p1_23_10 : decode prog_1_method_23_code 10 = .ok (.if_icmp .ge 38, 3) := by decide +kernel
theorem d_p1_23_48 : decode prog_1_method_23_code 48 = .ok (.iconst 1, 1) := by decide +kernel
theorem d_p1_23_49 : decode prog_1_method_23_code 49 = .ok (.ireturn, 1) := by decide +kernel
theorem d_p1_27_0 : decode prog_1_method_27_code 0 = .ok (.aload_n 0, 1) := by decide +kernel
theorem d_p1_27_1 : decode prog_1_method_27_code 1 = .ok (.getfield 10, 3) := by decide +kernel
theorem d_p1_27_4 : decode prog_1_method_27_code 4 = .ok (.aload_n 0, 1) := by decide +kernel
theorem d_p1_27_5 : decode prog_1_method_27_code 5 = .ok (.getfield 10, 3) := by decide +kernel
theorem d_p1_27_8 : decode prog_1_method_27_code 8 = .ok (.getfield 37, 3) := by decide +kernel
theorem d_p1_27_11 : decode prog_1_method_27_code 11 = .ok (.iconst 1, 1) := by decide +kernel
theorem d_p1_27_12 : decode prog_1_method_27_code 12 = .ok (.isub, 1) := by decide +kernel
theorem d_p1_27_13 : decode prog_1_method_27_code 13 = .ok (.iconst 0, 1) := by decide +kernel
theorem d_p1_27_14 : decode prog_1_method_27_code 14 = .ok (.iconst 0, 1) := by decide +kernel
theorem d_p1_27_15 : decode prog_1_method_27_code 15 = .ok (.aload_n 0, 1) := by decide +kernel
theorem d_p1_27_16 : decode prog_1_method_27_code 16 = .ok (.getfield 10, 3) := by decide +kernel
theorem d_p1_27_19 : decode prog_1_method_27_code 19 = .ok (.invokevirtual 143, 3) := by decide +kernel
theorem d_p1_27_22 : decode prog_1_method_27_code 22 = .ok (.invokestatic 157, 3) := by decide +kernel
theorem d_p1_27_25 : decode prog_1_method_27_code 25 = .ok (.ireturn, 1) := by decide +kernel
theorem d_p7_3_0 : decode prog_7_method_3_code 0 = .ok (.iload_n 0, 1) := by decide +kernel
theorem d_p7_3_1 : decode prog_7_method_3_code 1 = .ok (.iload_n 1, 1) := by decide +kernel
theorem d_p7_3_2 : decode prog_7_method_3_code 2 = .ok (.if_icmp .lt 12, 3) := by decide +kernel
theorem d_p7_3_14 : decode prog_7_method_3_code 14 = .ok (.iconst 0, 1) := by decide +kernel
theorem d_p7_3_15 : decode prog_7_method_3_code 15 = .ok (.ireturn, 1) := by decide +kernel
theorem d_p7_3_5 : decode prog_7_method_3_code 5 = .ok (.iload_n 0, 1) := by decide +kernel
theorem d_p7_3_6 : decode prog_7_method_3_code 6 = .ok (.iload_n 2, 1) := by decide +kernel
theorem d_p7_3_7 : decode prog_7_method_3_code 7 = .ok (.if_icmp .gt 7, 3) := by decide +kernel
theorem d_p7_3_10 : decode prog_7_method_3_code 10 = .ok (.iconst 1, 1) := by decide +kernel
theorem d_p7_3_11 : decode prog_7_method_3_code 11 = .ok (.goto 4, 3) := by decide +kernel
theorem d_p1_28_0 : decode prog_1_method_28_code 0 = .ok (.iload_n 1, 1) := by decide +kernel
theorem d_p1_28_1 : decode prog_1_method_28_code 1 = .ok (.tableswitch 51 0 2 #[27, 35, 43], 27) := by decide +kernel
theorem d_p1_28_28 : decode prog_1_method_28_code 28 = .ok (.aload_n 0, 1) := by decide +kernel
theorem d_p1_28_29 : decode prog_1_method_28_code 29 = .ok (.getfield 10, 3) := by decide +kernel
theorem d_p1_28_32 : decode prog_1_method_28_code 32 = .ok (.getfield 37, 3) := by decide +kernel
theorem d_p1_28_35 : decode prog_1_method_28_code 35 = .ok (.ireturn, 1) := by decide +kernel
theorem d_p1_28_36 : decode prog_1_method_28_code 36 = .ok (.aload_n 0, 1) := by decide +kernel
theorem d_p1_28_37 : decode prog_1_method_28_code 37 = .ok (.getfield 10, 3) := by decide +kernel
theorem d_p1_28_40 : decode prog_1_method_28_code 40 = .ok (.getfield 55, 3) := by decide +kernel
theorem d_p1_28_43 : decode prog_1_method_28_code 43 = .ok (.ireturn, 1) := by decide +kernel
theorem d_p1_28_44 : decode prog_1_method_28_code 44 = .ok (.aload_n 0, 1) := by decide +kernel
theorem d_p1_28_45 : decode prog_1_method_28_code 45 = .ok (.getfield 10, 3) := by decide +kernel
theorem d_p1_28_48 : decode prog_1_method_28_code 48 = .ok (.invokevirtual 161, 3) := by decide +kernel
theorem d_p1_28_51 : decode prog_1_method_28_code 51 = .ok (.ireturn, 1) := by decide +kernel
theorem d_p1_28_52 : decode prog_1_method_28_code 52 = .ok (.bipush (-2), 2) := by decide +kernel
theorem d_p1_28_54 : decode prog_1_method_28_code 54 = .ok (.ireturn, 1) := by decide +kernel
theorem d_p7_4_0 : decode prog_7_method_4_code 0 = .ok (.iload_n 1, 1) := by decide +kernel
theorem d_p7_4_1 : decode prog_7_method_4_code 1 = .ok (.iconst 0, 1) := by decide +kernel
theorem d_p7_4_2 : decode prog_7_method_4_code 2 = .ok (.aload_n 0, 1) := by decide +kernel
theorem d_p7_4_3 : decode prog_7_method_4_code 3 = .ok (.getfield 45, 3) := by decide +kernel
theorem d_p7_4_6 : decode prog_7_method_4_code 6 = .ok (.iconst 1, 1) := by decide +kernel
theorem d_p7_4_7 : decode prog_7_method_4_code 7 = .ok (.isub, 1) := by decide +kernel
theorem d_p7_4_8 : decode prog_7_method_4_code 8 = .ok (.invokestatic 49, 3) := by decide +kernel
theorem d_p7_4_11 : decode prog_7_method_4_code 11 = .ok (.ireturn, 1) := by decide +kernel
theorem d_p7_7_0 : decode prog_7_method_7_code 0 = .ok (.iconst 0, 1) := by decide +kernel
theorem d_p7_7_1 : decode prog_7_method_7_code 1 = .ok (.istore_n 1, 1) := by decide +kernel
theorem d_p7_7_2 : decode prog_7_method_7_code 2 = .ok (.iconst 0, 1) := by decide +kernel
theorem d_p7_7_3 : decode prog_7_method_7_code 3 = .ok (.istore_n 2, 1) := by decide +kernel
theorem d_p7_7_4 : decode prog_7_method_7_code 4 = .ok (.iload_n 2, 1) := by decide +kernel
theorem d_p7_7_5 : decode prog_7_method_7_code 5 = .ok (.aload_n 0, 1) := by decide +kernel
theorem d_p7_7_6 : decode prog_7_method_7_code 6 = .ok (.getfield 45, 3) := by decide +kernel
theorem d_p7_7_9 : decode prog_7_method_7_code 9 = .ok (.if_icmp .ge 42, 3) := by decide +kernel
theorem d_p7_7_51 : decode prog_7_method_7_code 51 = .ok (.iload_n 1, 1) := by decide +kernel
theorem d_p7_7_52 : decode prog_7_method_7_code 52 = .ok (.ireturn, 1) := by decide +kernel
theorem d_p7_10_0 : decode prog_7_method_10_code 0 = .ok (.iconst 0, 1) := by decide +kernel
theorem d_p7_10_1 : decode prog_7_method_10_code 1 = .ok (.istore_n 2, 1) := by decide +kernel
theorem d_p7_10_2 : decode prog_7_method_10_code 2 = .ok (.iload_n 2, 1) := by decide +kernel
theorem d_p7_10_3 : decode prog_7_method_10_code 3 = .ok (.aload_n 0, 1) := by decide +kernel
theorem d_p7_10_4 : decode prog_7_method_10_code 4 = .ok (.getfield 45, 3) := by decide +kernel
theorem d_p7_10_7 : decode prog_7_method_10_code 7 = .ok (.if_icmp .ge 83, 3) := by decide +kernel
theorem d_p7_10_90 : decode prog_7_method_10_code 90 = .ok (.iconst 0, 1) := by decide +kernel
theorem d_p7_10_91 : decode prog_7_method_10_code 91 = .ok (.istore_n 2, 1) := by decide +kernel
theorem d_p7_10_92 : decode prog_7_method_10_code 92 = .ok (.iload_n 2, 1) := by decide +kernel
theorem d_p7_10_93 : decode prog_7_method_10_code 93 = .ok (.aload_n 0, 1) := by decide +kernel
theorem d_p7_10_94 : decode prog_7_method_10_code 94 = .ok (.getfield 45, 3) := by decide +kernel
theorem d_p7_10_97 : decode prog_7_method_10_code 97 = .ok (.if_icmp .ge 92, 3) := by decide +kernel
theorem d_p7_10_189 : decode prog_7_method_10_code 189 = .ok (.return_, 1) := by decide +kernel
theorem d_p7_12_0 : decode prog_7_method_12_code 0 = .ok (.aload_n 0, 1) := by decide +kernel
theorem d_p7_12_1 : decode prog_7_method_12_code 1 = .ok (.iconst 0, 1) := by decide +kernel
theorem d_p7_12_2 : decode prog_7_method_12_code 2 = .ok (.invokevirtual 65, 3) := by decide +kernel
theorem d_p7_12_5 : decode prog_7_method_12_code 5 = .ok (.aload_n 0, 1) := by decide +kernel
theorem d_p7_12_6 : decode prog_7_method_12_code 6 = .ok (.iconst 0, 1) := by decide +kernel
theorem d_p7_12_7 : decode prog_7_method_12_code 7 = .ok (.putfield 69, 3) := by decide +kernel
theorem d_p7_12_10 : decode prog_7_method_12_code 10 = .ok (.iconst 0, 1) := by decide +kernel
theorem d_p7_12_11 : decode prog_7_method_12_code 11 = .ok (.istore_n 1, 1) := by decide +kernel
theorem d_p7_12_12 : decode prog_7_method_12_code 12 = .ok (.iload_n 1, 1) := by decide +kernel
theorem d_p7_12_13 : decode prog_7_method_12_code 13 = .ok (.aload_n 0, 1) := by decide +kernel
theorem d_p7_12_14 : decode prog_7_method_12_code 14 = .ok (.getfield 45, 3) := by decide +kernel
theorem d_p7_12_17 : decode prog_7_method_12_code 17 = .ok (.if_icmp .ge 78, 3) := by decide +kernel
theorem d_p7_12_95 : decode prog_7_method_12_code 95 = .ok (.return_, 1) := by decide +kernel
theorem d_p7_17_0 : decode prog_7_method_17_code 0 = .ok (.aload_n 0, 1) := by decide +kernel
theorem d_p7_17_1 : decode prog_7_method_17_code 1 = .ok (.invokevirtual 75, 3) := by decide +kernel
theorem d_p7_17_4 : decode prog_7_method_17_code 4 = .ok (.iconst 0, 1) := by decide +kernel
theorem d_p7_17_5 : decode prog_7_method_17_code 5 = .ok (.istore_n 1, 1) := by decide +kernel
theorem d_p7_17_6 : decode prog_7_method_17_code 6 = .ok (.iload_n 1, 1) := by decide +kernel
theorem d_p7_17_7 : decode prog_7_method_17_code 7 = .ok (.aload_n 0, 1) := by decide +kernel
theorem d_p7_17_8 : decode prog_7_method_17_code 8 = .ok (.getfield 69, 3) := by decide +kernel
theorem d_p7_17_11 : decode prog_7_method_17_code 11 = .ok (.if_icmp .ge 57, 3) := by decide +kernel
theorem d_p7_17_68 : decode prog_7_method_17_code 68 = .ok (.return_, 1) := by decide +kernel
theorem d_p7_27_0 : decode prog_7_method_27_code 0 = .ok (.aload_n 0, 1) := by decide +kernel
theorem d_p7_27_1 : decode prog_7_method_27_code 1 = .ok (.iconst 0, 1) := by decide +kernel
theorem d_p7_27_2 : decode prog_7_method_27_code 2 = .ok (.putfield 87, 3) := by decide +kernel
theorem d_p7_27_5 : decode prog_7_method_27_code 5 = .ok (.iconst 0, 1) := by decide +kernel
theorem d_p7_27_6 : decode prog_7_method_27_code 6 = .ok (.istore_n 1, 1) := by decide +kernel
theorem d_p7_27_7 : decode prog_7_method_27_code 7 = .ok (.iload_n 1, 1) := by decide +kernel
theorem d_p7_27_8 : decode prog_7_method_27_code 8 = .ok (.aload_n 0, 1) := by decide +kernel
theorem d_p7_27_9 : decode prog_7_method_27_code 9 = .ok (.getfield 45, 3) := by decide +kernel
theorem d_p7_27_12 : decode prog_7_method_27_code 12 = .ok (.if_icmp .ge 16, 3) := by decide +kernel
theorem d_p7_27_28 : decode prog_7_method_27_code 28 = .ok (.iconst 0, 1) := by decide +kernel
theorem d_p7_27_29 : decode prog_7_method_27_code 29 = .ok (.istore_n 1, 1) := by decide +kernel
theorem d_p7_27_30 : decode prog_7_method_27_code 30 = .ok (.iload_n 1, 1) := by decide +kernel
theorem d_p7_27_31 : decode prog_7_method_27_code 31 = .ok (.aload_n 0, 1) := by decide +kernel
theorem d_p7_27_32 : decode prog_7_method_27_code 32 = .ok (.getfield 45, 3) := by decide +kernel
theorem d_p7_27_35 : decode prog_7_method_27_code 35 = .ok (.if_icmp .ge 64, 3) := by decide +kernel
theorem d_p7_27_99 : decode prog_7_method_27_code 99 = .ok (.return_, 1) := by decide +kernel
theorem d_p7_33_0 : decode prog_7_method_33_code 0 = .ok (.aload_n 0, 1) := by decide +kernel
theorem d_p7_33_1 : decode prog_7_method_33_code 1 = .ok (.invokevirtual 96, 3) := by decide +kernel
theorem d_p7_33_4 : decode prog_7_method_33_code 4 = .ok (.iconst 0, 1) := by decide +kernel
theorem d_p7_33_5 : decode prog_7_method_33_code 5 = .ok (.istore_n 1, 1) := by decide +kernel
theorem d_p7_33_6 : decode prog_7_method_33_code 6 = .ok (.iconst 0, 1) := by decide +kernel
theorem d_p7_33_7 : decode prog_7_method_33_code 7 = .ok (.istore_n 2, 1) := by decide +kernel
theorem d_p7_33_8 : decode prog_7_method_33_code 8 = .ok (.iload_n 2, 1) := by decide +kernel
theorem d_p7_33_9 : decode prog_7_method_33_code 9 = .ok (.aload_n 0, 1) := by decide +kernel
theorem d_p7_33_10 : decode prog_7_method_33_code 10 = .ok (.getfield 87, 3) := by decide +kernel
theorem d_p7_33_13 : decode prog_7_method_33_code 13 = .ok (.if_icmp .ge 28, 3) := by decide +kernel
