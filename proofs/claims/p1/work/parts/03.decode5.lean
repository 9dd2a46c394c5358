theorem d_p7_19_10 : decode prog_7_method_19_code 10 = .ok (.lastore, 1) := by decide +kernel
theorem d_p7_19_11 : decode prog_7_method_19_code 11 = .ok (.iconst 1, 1) := by decide +kernel
theorem d_p7_19_12 : decode prog_7_method_19_code 12 = .ok (.istore_n 1, 1) := by decide +kernel
theorem d_p7_19_13 : decode prog_7_method_19_code 13 = .ok (.iload_n 1, 1) := by decide +kernel
theorem d_p7_19_14 : decode prog_7_method_19_code 14 = .ok (.iconst 1, 1) := by decide +kernel
theorem d_p7_19_15 : decode prog_7_method_19_code 15 = .ok (.aload_n 0, 1) := by decide +kernel
theorem d_p7_19_16 : decode prog_7_method_19_code 16 = .ok (.getfield 69, 3) := by decide +kernel
theorem d_p7_19_19 : decode prog_7_method_19_code 19 = .ok (.ishl, 1) := by decide +kernel
theorem d_p7_19_20 : decode prog_7_method_19_code 20 = .ok (.if_icmp .ge 89, 3) := by decide +kernel
theorem d_p7_19_109 : decode prog_7_method_19_code 109 = .ok (.aload_n 0, 1) := by decide +kernel
theorem d_p7_19_110 : decode prog_7_method_19_code 110 = .ok (.getfield 23, 3) := by decide +kernel
theorem d_p7_19_113 : decode prog_7_method_19_code 113 = .ok (.iconst 1, 1) := by decide +kernel
theorem d_p7_19_114 : decode prog_7_method_19_code 114 = .ok (.aload_n 0, 1) := by decide +kernel
theorem d_p7_19_115 : decode prog_7_method_19_code 115 = .ok (.getfield 69, 3) := by decide +kernel
theorem d_p7_19_118 : decode prog_7_method_19_code 118 = .ok (.ishl, 1) := by decide +kernel
theorem d_p7_19_119 : decode prog_7_method_19_code 119 = .ok (.iconst 1, 1) := by decide +kernel
theorem d_p7_19_120 : decode prog_7_method_19_code 120 = .ok (.isub, 1) := by decide +kernel
theorem d_p7_19_121 : decode prog_7_method_19_code 121 = .ok (.laload, 1) := by decide +kernel
theorem d_p7_19_122 : decode prog_7_method_19_code 122 = .ok (.lreturn, 1) := by decide +kernel
theorem d_p7_20_0 : decode prog_7_method_20_code 0 = .ok (.aload_n 0, 1) := by decide +kernel
theorem d_p7_20_1 : decode prog_7_method_20_code 1 = .ok (.invokevirtual 81, 3) := by decide +kernel
theorem d_p7_20_4 : decode prog_7_method_20_code 4 = .ok (.iconst 0, 1) := by decide +kernel
theorem d_p7_20_5 : decode prog_7_method_20_code 5 = .ok (.istore_n 1, 1) := by decide +kernel
theorem d_p7_20_6 : decode prog_7_method_20_code 6 = .ok (.iconst 0, 1) := by decide +kernel
theorem d_p7_20_7 : decode prog_7_method_20_code 7 = .ok (.istore_n 2, 1) := by decide +kernel
theorem d_p7_20_8 : decode prog_7_method_20_code 8 = .ok (.iload_n 2, 1) := by decide +kernel
theorem d_p7_20_9 : decode prog_7_method_20_code 9 = .ok (.aload_n 0, 1) := by decide +kernel
theorem d_p7_20_10 : decode prog_7_method_20_code 10 = .ok (.getfield 69, 3) := by decide +kernel
theorem d_p7_20_13 : decode prog_7_method_20_code 13 = .ok (.if_icmp .ge 16, 3) := by decide +kernel
theorem d_p7_20_29 : decode prog_7_method_20_code 29 = .ok (.iconst 0, 1) := by decide +kernel
theorem d_p7_20_30 : decode prog_7_method_20_code 30 = .ok (.istore_n 2, 1) := by decide +kernel
theorem d_p7_20_31 : decode prog_7_method_20_code 31 = .ok (.iload_n 2, 1) := by decide +kernel
theorem d_p7_20_32 : decode prog_7_method_20_code 32 = .ok (.aload_n 0, 1) := by decide +kernel
theorem d_p7_20_33 : decode prog_7_method_20_code 33 = .ok (.getfield 69, 3) := by decide +kernel
theorem d_p7_20_36 : decode prog_7_method_20_code 36 = .ok (.if_icmp .ge 133, 3) := by decide +kernel
theorem d_p7_20_169 : decode prog_7_method_20_code 169 = .ok (.iload_n 1, 1) := by decide +kernel
theorem d_p7_20_170 : decode prog_7_method_20_code 170 = .ok (.ireturn, 1) := by decide +kernel
theorem d_p7_34_0 : decode prog_7_method_34_code 0 = .ok (.aload_n 0, 1) := by decide +kernel
theorem d_p7_34_1 : decode prog_7_method_34_code 1 = .ok (.invokevirtual 102, 3) := by decide +kernel
theorem d_p7_34_4 : decode prog_7_method_34_code 4 = .ok (.ireturn, 1) := by decide +kernel
theorem d_p7_35_0 : decode prog_7_method_35_code 0 = .ok (.aload_n 0, 1) := by decide +kernel
theorem d_p7_35_1 : decode prog_7_method_35_code 1 = .ok (.invokevirtual 102, 3) := by decide +kernel
theorem d_p7_35_4 : decode prog_7_method_35_code 4 = .ok (.istore_n 2, 1) := by decide +kernel
theorem d_p7_35_5 : decode prog_7_method_35_code 5 = .ok (.iload_n 1, 1) := by decide +kernel
theorem d_p7_35_6 : decode prog_7_method_35_code 6 = .ok (.iconst 0, 1) := by decide +kernel
theorem d_p7_35_7 : decode prog_7_method_35_code 7 = .ok (.iload_n 2, 1) := by decide +kernel
theorem d_p7_35_8 : decode prog_7_method_35_code 8 = .ok (.iconst 1, 1) := by decide +kernel
theorem d_p7_35_9 : decode prog_7_method_35_code 9 = .ok (.isub, 1) := by decide +kernel
theorem d_p7_35_10 : decode prog_7_method_35_code 10 = .ok (.invokestatic 49, 3) := by decide +kernel
theorem d_p7_35_13 : decode prog_7_method_35_code 13 = .ok (.ifCond .eq 12, 3) := by decide +kernel
theorem d_p7_35_25 : decode prog_7_method_35_code 25 = .ok (.iconst (-1), 1) := by decide +kernel
theorem d_p7_35_26 : decode prog_7_method_35_code 26 = .ok (.ireturn, 1) := by decide +kernel
theorem d_p7_36_0 : decode prog_7_method_36_code 0 = .ok (.aload_n 0, 1) := by decide +kernel
theorem d_p7_36_1 : decode prog_7_method_36_code 1 = .ok (.invokevirtual 81, 3) := by decide +kernel
theorem d_p7_36_4 : decode prog_7_method_36_code 4 = .ok (.aload_n 0, 1) := by decide +kernel
theorem d_p7_36_5 : decode prog_7_method_36_code 5 = .ok (.getfield 69, 3) := by decide +kernel
theorem d_p7_36_8 : decode prog_7_method_36_code 8 = .ok (.iconst 2, 1) := by decide +kernel
theorem d_p7_36_9 : decode prog_7_method_36_code 9 = .ok (.if_icmp .ge 5, 3) := by decide +kernel
theorem d_p7_36_12 : decode prog_7_method_36_code 12 = .ok (.iconst 0, 1) := by decide +kernel
theorem d_p7_36_13 : decode prog_7_method_36_code 13 = .ok (.ireturn, 1) := by decide +kernel
theorem d_p7_37_0 : decode prog_7_method_37_code 0 = .ok (.aload_n 0, 1) := by decide +kernel
theorem d_p7_37_1 : decode prog_7_method_37_code 1 = .ok (.iconst 0, 1) := by decide +kernel
theorem d_p7_37_2 : decode prog_7_method_37_code 2 = .ok (.invokevirtual 65, 3) := by decide +kernel
theorem d_p7_37_5 : decode prog_7_method_37_code 5 = .ok (.iconst 0, 1) := by decide +kernel
theorem d_p7_37_6 : decode prog_7_method_37_code 6 = .ok (.istore_n 1, 1) := by decide +kernel
theorem d_p7_37_7 : decode prog_7_method_37_code 7 = .ok (.iconst 0, 1) := by decide +kernel
theorem d_p7_37_8 : decode prog_7_method_37_code 8 = .ok (.istore_n 2, 1) := by decide +kernel
theorem d_p7_37_9 : decode prog_7_method_37_code 9 = .ok (.iload_n 2, 1) := by decide +kernel
theorem d_p7_37_10 : decode prog_7_method_37_code 10 = .ok (.aload_n 0, 1) := by decide +kernel
theorem d_p7_37_11 : decode prog_7_method_37_code 11 = .ok (.getfield 45, 3) := by decide +kernel
theorem d_p7_37_14 : decode prog_7_method_37_code 14 = .ok (.if_icmp .ge 63, 3) := by decide +kernel
theorem d_p7_37_77 : decode prog_7_method_37_code 77 = .ok (.iload_n 1, 1) := by decide +kernel
theorem d_p7_37_78 : decode prog_7_method_37_code 78 = .ok (.ireturn, 1) := by decide +kernel
theorem d_p7_38_0 : decode prog_7_method_38_code 0 = .ok (.aload_n 0, 1) := by decide +kernel
theorem d_p7_38_1 : decode prog_7_method_38_code 1 = .ok (.iconst 0, 1) := by decide +kernel
theorem d_p7_38_2 : decode prog_7_method_38_code 2 = .ok (.invokevirtual 65, 3) := by decide +kernel
theorem d_p7_38_5 : decode prog_7_method_38_code 5 = .ok (.iconst 1, 1) := by decide +kernel
theorem d_p7_38_6 : decode prog_7_method_38_code 6 = .ok (.istore_n 1, 1) := by decide +kernel
theorem d_p7_38_7 : decode prog_7_method_38_code 7 = .ok (.iconst 0, 1) := by decide +kernel
theorem d_p7_38_8 : decode prog_7_method_38_code 8 = .ok (.istore_n 2, 1) := by decide +kernel
theorem d_p7_38_9 : decode prog_7_method_38_code 9 = .ok (.iload_n 2, 1) := by decide +kernel
theorem d_p7_38_10 : decode prog_7_method_38_code 10 = .ok (.aload_n 0, 1) := by decide +kernel
theorem d_p7_38_11 : decode prog_7_method_38_code 11 = .ok (.getfield 45, 3) := by decide +kernel
theorem d_p7_38_14 : decode prog_7_method_38_code 14 = .ok (.if_icmp .ge 49, 3) := by decide +kernel
theorem d_p7_38_63 : decode prog_7_method_38_code 63 = .ok (.iload_n 1, 1) := by decide +kernel
theorem d_p7_38_64 : decode prog_7_method_38_code 64 = .ok (.ireturn, 1) := by decide +kernel
theorem d_p7_47_0 : decode prog_7_method_47_code 0 = .ok (.iconst 0, 1) := by decide +kernel
theorem d_p7_47_1 : decode prog_7_method_47_code 1 = .ok (.istore_n 1, 1) := by decide +kernel
theorem d_p7_47_2 : decode prog_7_method_47_code 2 = .ok (.iload_n 1, 1) := by decide +kernel
theorem d_p7_47_3 : decode prog_7_method_47_code 3 = .ok (.aload_n 0, 1) := by decide +kernel
theorem d_p7_47_4 : decode prog_7_method_47_code 4 = .ok (.getfield 45, 3) := by decide +kernel
theorem d_p7_47_7 : decode prog_7_method_47_code 7 = .ok (.if_icmp .ge 45, 3) := by decide +kernel
theorem d_p7_47_52 : decode prog_7_method_47_code 52 = .ok (.iconst 0, 1) := by decide +kernel
theorem d_p7_47_53 : decode prog_7_method_47_code 53 = .ok (.ireturn, 1) := by decide +kernel
theorem d_p7_48_0 : decode prog_7_method_48_code 0 = .ok (.iload_n 1, 1) := by decide +kernel
theorem d_p7_48_1 : decode prog_7_method_48_code 1 = .ok (.iconst 0, 1) := by decide +kernel
theorem d_p7_48_2 : decode prog_7_method_48_code 2 = .ok (.iconst 2, 1) := by decide +kernel
theorem d_p7_48_3 : decode prog_7_method_48_code 3 = .ok (.invokestatic 49, 3) := by decide +kernel
theorem d_p7_48_6 : decode prog_7_method_48_code 6 = .ok (.ifCond .ne 6, 3) := by decide +kernel
theorem d_p7_48_12 : decode prog_7_method_48_code 12 = .ok (.iload_n 1, 1) := by decide +kernel
theorem d_p7_48_13 : decode prog_7_method_48_code 13 = .ok (.ifCond .ne 8, 3) := by decide +kernel
theorem d_p7_48_16 : decode prog_7_method_48_code 16 = .ok (.aload_n 0, 1) := by decide +kernel
theorem d_p7_48_17 : decode prog_7_method_48_code 17 = .ok (.getfield 45, 3) := by decide +kernel
theorem d_p7_48_20 : decode prog_7_method_48_code 20 = .ok (.ireturn, 1) := by decide +kernel
theorem d_p7_48_21 : decode prog_7_method_48_code 21 = .ok (.iload_n 1, 1) := by decide +kernel
theorem d_p7_48_22 : decode prog_7_method_48_code 22 = .ok (.iconst 1, 1) := by decide +kernel
theorem d_p7_48_23 : decode prog_7_method_48_code 23 = .ok (.if_icmp .ne 8, 3) := by decide +kernel
theorem d_p7_48_26 : decode prog_7_method_48_code 26 = .ok (.aload_n 0, 1) := by decide +kernel
theorem d_p7_48_27 : decode prog_7_method_48_code 27 = .ok (.invokevirtual 61, 3) := by decide +kernel
theorem d_p7_48_30 : decode prog_7_method_48_code 30 = .ok (.ireturn, 1) := by decide +kernel
theorem d_p7_48_31 : decode prog_7_method_48_code 31 = .ok (.iconst 0, 1) := by decide +kernel
theorem d_p7_48_32 : decode prog_7_method_48_code 32 = .ok (.istore_n 2, 1) := by decide +kernel
theorem d_p7_48_33 : decode prog_7_method_48_code 33 = .ok (.iconst 0, 1) := by decide +kernel
theorem d_p7_48_34 : decode prog_7_method_48_code 34 = .ok (.istore_n 3, 1) := by decide +kernel
theorem d_p7_48_35 : decode prog_7_method_48_code 35 = .ok (.iload_n 3, 1) := by decide +kernel
theorem d_p7_48_36 : decode prog_7_method_48_code 36 = .ok (.aload_n 0, 1) := by decide +kernel
theorem d_p7_48_37 : decode prog_7_method_48_code 37 = .ok (.getfield 45, 3) := by decide +kernel
theorem d_p7_48_40 : decode prog_7_method_48_code 40 = .ok (.if_icmp .ge 55, 3) := by decide +kernel
theorem d_p7_48_95 : decode prog_7_method_48_code 95 = .ok (.iload_n 2, 1) := by decide +kernel
theorem d_p7_48_96 : decode prog_7_method_48_code 96 = .ok (.ireturn, 1) := by decide +kernel
theorem d_p7_48_9 : decode prog_7_method_48_code 9 = .ok (.bipush (-2), 2) := by decide +kernel
theorem d_p7_48_11 : decode prog_7_method_48_code 11 = .ok (.ireturn, 1) := by decide +kernel
