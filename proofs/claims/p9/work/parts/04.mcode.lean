theorem d_M_graph_123 : decode c_M_graph 123 = .ok (.aload_n 0, 1) := by decide +kernel
theorem d_M_graph_124 : decode c_M_graph 124 = .ok (.getfield 50, 3) := by decide +kernel
theorem d_M_graph_127 : decode c_M_graph 127 = .ok (.iload 6, 2) := by decide +kernel
theorem d_M_graph_129 : decode c_M_graph 129 = .ok (.aload_n 0, 1) := by decide +kernel
theorem d_M_graph_130 : decode c_M_graph 130 = .ok (.getfield 50, 3) := by decide +kernel
theorem d_M_graph_133 : decode c_M_graph 133 = .ok (.iload 6, 2) := by decide +kernel
theorem d_M_graph_135 : decode c_M_graph 135 = .ok (.iconst 1, 1) := by decide +kernel
theorem d_M_graph_136 : decode c_M_graph 136 = .ok (.isub, 1) := by decide +kernel
theorem d_M_graph_137 : decode c_M_graph 137 = .ok (.iaload, 1) := by decide +kernel
theorem d_M_graph_138 : decode c_M_graph 138 = .ok (.iastore, 1) := by decide +kernel
theorem d_M_graph_139 : decode c_M_graph 139 = .ok (.iinc 6 (-1), 3) := by decide +kernel
theorem d_M_graph_142 : decode c_M_graph 142 = .ok (.goto (-46), 3) := by decide +kernel
theorem d_M_graph_145 : decode c_M_graph 145 = .ok (.aload_n 0, 1) := by decide +kernel
theorem d_M_graph_146 : decode c_M_graph 146 = .ok (.getfield 50, 3) := by decide +kernel
theorem d_M_graph_149 : decode c_M_graph 149 = .ok (.iload 6, 2) := by decide +kernel
theorem d_M_graph_151 : decode c_M_graph 151 = .ok (.aload_n 0, 1) := by decide +kernel
theorem d_M_graph_152 : decode c_M_graph 152 = .ok (.getfield 28, 3) := by decide +kernel
theorem d_M_graph_155 : decode c_M_graph 155 = .ok (.iload 5, 2) := by decide +kernel
theorem d_M_graph_157 : decode c_M_graph 157 = .ok (.iaload, 1) := by decide +kernel
theorem d_M_graph_158 : decode c_M_graph 158 = .ok (.iastore, 1) := by decide +kernel
theorem d_M_graph_159 : decode c_M_graph 159 = .ok (.iinc 4 1, 3) := by decide +kernel
theorem d_M_graph_162 : decode c_M_graph 162 = .ok (.iinc 5 1, 3) := by decide +kernel
theorem d_M_graph_165 : decode c_M_graph 165 = .ok (.goto (-107), 3) := by decide +kernel
theorem d_M_graph_168 : decode c_M_graph 168 = .ok (.aload_n 0, 1) := by decide +kernel
theorem d_M_graph_169 : decode c_M_graph 169 = .ok (.getfield 50, 3) := by decide +kernel
theorem d_M_graph_172 : decode c_M_graph 172 = .ok (.iload_n 3, 1) := by decide +kernel
theorem d_M_graph_173 : decode c_M_graph 173 = .ok (.iaload, 1) := by decide +kernel
theorem d_M_graph_174 : decode c_M_graph 174 = .ok (.ireturn, 1) := by decide +kernel
theorem d_M_isLess_0 : decode c_M_isLess 0 = .ok (.iload_n 0, 1) := by decide +kernel
theorem d_M_isLess_1 : decode c_M_isLess 1 = .ok (.ifCond .ge 7, 3) := by decide +kernel
theorem d_M_isLess_4 : decode c_M_isLess 4 = .ok (.iconst 1, 1) := by decide +kernel
theorem d_M_isLess_5 : decode c_M_isLess 5 = .ok (.goto 4, 3) := by decide +kernel
theorem d_M_isLess_8 : decode c_M_isLess 8 = .ok (.iconst 0, 1) := by decide +kernel
theorem d_M_isLess_9 : decode c_M_isLess 9 = .ok (.iload_n 1, 1) := by decide +kernel
theorem d_M_isLess_10 : decode c_M_isLess 10 = .ok (.ifCond .ge 7, 3) := by decide +kernel
theorem d_M_isLess_13 : decode c_M_isLess 13 = .ok (.iconst 1, 1) := by decide +kernel
theorem d_M_isLess_14 : decode c_M_isLess 14 = .ok (.goto 4, 3) := by decide +kernel
theorem d_M_isLess_17 : decode c_M_isLess 17 = .ok (.iconst 0, 1) := by decide +kernel
theorem d_M_isLess_18 : decode c_M_isLess 18 = .ok (.if_icmp .ne 16, 3) := by decide +kernel
theorem d_M_isLess_21 : decode c_M_isLess 21 = .ok (.iload_n 0, 1) := by decide +kernel
theorem d_M_isLess_22 : decode c_M_isLess 22 = .ok (.iload_n 1, 1) := by decide +kernel
theorem d_M_isLess_23 : decode c_M_isLess 23 = .ok (.if_icmp .ge 7, 3) := by decide +kernel
theorem d_M_isLess_26 : decode c_M_isLess 26 = .ok (.iconst 1, 1) := by decide +kernel
theorem d_M_isLess_27 : decode c_M_isLess 27 = .ok (.goto 16, 3) := by decide +kernel
theorem d_M_isLess_30 : decode c_M_isLess 30 = .ok (.iconst 0, 1) := by decide +kernel
theorem d_M_isLess_31 : decode c_M_isLess 31 = .ok (.goto 12, 3) := by decide +kernel
theorem d_M_isLess_34 : decode c_M_isLess 34 = .ok (.iload_n 1, 1) := by decide +kernel
theorem d_M_isLess_35 : decode c_M_isLess 35 = .ok (.ifCond .ge 7, 3) := by decide +kernel
theorem d_M_isLess_38 : decode c_M_isLess 38 = .ok (.iconst 1, 1) := by decide +kernel
theorem d_M_isLess_39 : decode c_M_isLess 39 = .ok (.goto 4, 3) := by decide +kernel
theorem d_M_isLess_42 : decode c_M_isLess 42 = .ok (.iconst 0, 1) := by decide +kernel
theorem d_M_isLess_43 : decode c_M_isLess 43 = .ok (.ireturn, 1) := by decide +kernel
theorem d_M_falls_0 : decode c_M_falls 0 = .ok (.aload_n 0, 1) := by decide +kernel
theorem d_M_falls_1 : decode c_M_falls 1 = .ok (.aload_n 0, 1) := by decide +kernel
theorem d_M_falls_2 : decode c_M_falls 2 = .ok (.iload_n 1, 1) := by decide +kernel
theorem d_M_falls_3 : decode c_M_falls 3 = .ok (.invokevirtual 60, 3) := by decide +kernel
theorem d_M_falls_6 : decode c_M_falls 6 = .ok (.ifCond .ne 7, 3) := by decide +kernel
theorem d_M_falls_9 : decode c_M_falls 9 = .ok (.iconst 1, 1) := by decide +kernel
theorem d_M_falls_10 : decode c_M_falls 10 = .ok (.goto 4, 3) := by decide +kernel
theorem d_M_falls_13 : decode c_M_falls 13 = .ok (.iconst 0, 1) := by decide +kernel
theorem d_M_falls_14 : decode c_M_falls 14 = .ok (.iconst 0, 1) := by decide +kernel
theorem d_M_falls_15 : decode c_M_falls 15 = .ok (.invokevirtual 85, 3) := by decide +kernel
theorem d_M_falls_18 : decode c_M_falls 18 = .ok (.ifCond .ne 15, 3) := by decide +kernel
theorem d_M_falls_21 : decode c_M_falls 21 = .ok (.aload_n 0, 1) := by decide +kernel
theorem d_M_falls_22 : decode c_M_falls 22 = .ok (.iload_n 1, 1) := by decide +kernel
theorem d_M_falls_23 : decode c_M_falls 23 = .ok (.invokevirtual 99, 3) := by decide +kernel
theorem d_M_falls_26 : decode c_M_falls 26 = .ok (.ifCond .eq 7, 3) := by decide +kernel
theorem d_M_falls_29 : decode c_M_falls 29 = .ok (.iconst 1, 1) := by decide +kernel
theorem d_M_falls_30 : decode c_M_falls 30 = .ok (.goto 4, 3) := by decide +kernel
theorem d_M_falls_33 : decode c_M_falls 33 = .ok (.iconst 0, 1) := by decide +kernel
theorem d_M_falls_34 : decode c_M_falls 34 = .ok (.ireturn, 1) := by decide +kernel
theorem d_M_fallsAt_0 : decode c_M_fallsAt 0 = .ok (.iconst 1, 1) := by decide +kernel
theorem d_M_fallsAt_1 : decode c_M_fallsAt 1 = .ok (.istore_n 2, 1) := by decide +kernel
theorem d_M_fallsAt_2 : decode c_M_fallsAt 2 = .ok (.iconst 0, 1) := by decide +kernel
theorem d_M_fallsAt_3 : decode c_M_fallsAt 3 = .ok (.istore_n 3, 1) := by decide +kernel
theorem d_M_fallsAt_4 : decode c_M_fallsAt 4 = .ok (.iload_n 3, 1) := by decide +kernel
theorem d_M_fallsAt_5 : decode c_M_fallsAt 5 = .ok (.aload_n 0, 1) := by decide +kernel
theorem d_M_fallsAt_6 : decode c_M_fallsAt 6 = .ok (.getfield 71, 3) := by decide +kernel
theorem d_M_fallsAt_9 : decode c_M_fallsAt 9 = .ok (.if_icmp .ge 51, 3) := by decide +kernel
theorem d_M_fallsAt_12 : decode c_M_fallsAt 12 = .ok (.iload_n 2, 1) := by decide +kernel
theorem d_M_fallsAt_13 : decode c_M_fallsAt 13 = .ok (.ifCond .eq 39, 3) := by decide +kernel
theorem d_M_fallsAt_16 : decode c_M_fallsAt 16 = .ok (.aload_n 0, 1) := by decide +kernel
theorem d_M_fallsAt_17 : decode c_M_fallsAt 17 = .ok (.getfield 22, 3) := by decide +kernel
theorem d_M_fallsAt_20 : decode c_M_fallsAt 20 = .ok (.iload_n 3, 1) := by decide +kernel
theorem d_M_fallsAt_21 : decode c_M_fallsAt 21 = .ok (.iaload, 1) := by decide +kernel
theorem d_M_fallsAt_22 : decode c_M_fallsAt 22 = .ok (.iload_n 1, 1) := by decide +kernel
theorem d_M_fallsAt_23 : decode c_M_fallsAt 23 = .ok (.if_icmp .ne 25, 3) := by decide +kernel
theorem d_M_fallsAt_26 : decode c_M_fallsAt 26 = .ok (.aload_n 0, 1) := by decide +kernel
theorem d_M_fallsAt_27 : decode c_M_fallsAt 27 = .ok (.getfield 25, 3) := by decide +kernel
theorem d_M_fallsAt_30 : decode c_M_fallsAt 30 = .ok (.iload_n 3, 1) := by decide +kernel
theorem d_M_fallsAt_31 : decode c_M_fallsAt 31 = .ok (.iaload, 1) := by decide +kernel
theorem d_M_fallsAt_32 : decode c_M_fallsAt 32 = .ok (.iload_n 1, 1) := by decide +kernel
theorem d_M_fallsAt_33 : decode c_M_fallsAt 33 = .ok (.if_icmp .ne 15, 3) := by decide +kernel
theorem d_M_fallsAt_36 : decode c_M_fallsAt 36 = .ok (.aload_n 0, 1) := by decide +kernel
theorem d_M_fallsAt_37 : decode c_M_fallsAt 37 = .ok (.getfield 28, 3) := by decide +kernel
theorem d_M_fallsAt_40 : decode c_M_fallsAt 40 = .ok (.iload_n 3, 1) := by decide +kernel
theorem d_M_fallsAt_41 : decode c_M_fallsAt 41 = .ok (.iaload, 1) := by decide +kernel
theorem d_M_fallsAt_42 : decode c_M_fallsAt 42 = .ok (.invokestatic 96, 3) := by decide +kernel
theorem d_M_fallsAt_45 : decode c_M_fallsAt 45 = .ok (.ifCond .ne 7, 3) := by decide +kernel
theorem d_M_fallsAt_48 : decode c_M_fallsAt 48 = .ok (.iconst 1, 1) := by decide +kernel
theorem d_M_fallsAt_49 : decode c_M_fallsAt 49 = .ok (.goto 4, 3) := by decide +kernel
theorem d_M_fallsAt_52 : decode c_M_fallsAt 52 = .ok (.iconst 0, 1) := by decide +kernel
theorem d_M_fallsAt_53 : decode c_M_fallsAt 53 = .ok (.istore_n 2, 1) := by decide +kernel
theorem d_M_fallsAt_54 : decode c_M_fallsAt 54 = .ok (.iinc 3 1, 3) := by decide +kernel
theorem d_M_fallsAt_57 : decode c_M_fallsAt 57 = .ok (.goto (-53), 3) := by decide +kernel
theorem d_M_fallsAt_60 : decode c_M_fallsAt 60 = .ok (.iload_n 2, 1) := by decide +kernel
theorem d_M_fallsAt_61 : decode c_M_fallsAt 61 = .ok (.ireturn, 1) := by decide +kernel
theorem d_M_isBad_0 : decode c_M_isBad 0 = .ok (.iload_n 0, 1) := by decide +kernel
theorem d_M_isBad_1 : decode c_M_isBad 1 = .ok (.iload_n 0, 1) := by decide +kernel
theorem d_M_isBad_2 : decode c_M_isBad 2 = .ok (.invokestatic 78, 3) := by decide +kernel
theorem d_M_isBad_5 : decode c_M_isBad 5 = .ok (.iload_n 0, 1) := by decide +kernel
theorem d_M_isBad_6 : decode c_M_isBad 6 = .ok (.if_icmp .eq 5, 3) := by decide +kernel
theorem d_M_isBad_9 : decode c_M_isBad 9 = .ok (.iconst 0, 1) := by decide +kernel
theorem d_M_isBad_10 : decode c_M_isBad 10 = .ok (.ireturn, 1) := by decide +kernel
theorem d_M_isBad_11 : decode c_M_isBad 11 = .ok (.iconst 0, 1) := by decide +kernel
theorem d_M_isBad_12 : decode c_M_isBad 12 = .ok (.istore_n 1, 1) := by decide +kernel
theorem d_M_isBad_13 : decode c_M_isBad 13 = .ok (.iconst 0, 1) := by decide +kernel
theorem d_M_isBad_14 : decode c_M_isBad 14 = .ok (.istore_n 2, 1) := by decide +kernel
theorem d_M_isBad_15 : decode c_M_isBad 15 = .ok (.iload_n 2, 1) := by decide +kernel
theorem d_M_isBad_16 : decode c_M_isBad 16 = .ok (.iconst 4, 1) := by decide +kernel
theorem d_M_isBad_17 : decode c_M_isBad 17 = .ok (.if_icmp .ge 29, 3) := by decide +kernel
theorem d_M_isBad_20 : decode c_M_isBad 20 = .ok (.iload_n 1, 1) := by decide +kernel
theorem d_M_isBad_21 : decode c_M_isBad 21 = .ok (.ifCond .ne 13, 3) := by decide +kernel
theorem d_M_isBad_24 : decode c_M_isBad 24 = .ok (.iload_n 0, 1) := by decide +kernel
theorem d_M_isBad_25 : decode c_M_isBad 25 = .ok (.iload_n 2, 1) := by decide +kernel
theorem d_M_isBad_26 : decode c_M_isBad 26 = .ok (.iload_n 2, 1) := by decide +kernel
theorem d_M_isBad_27 : decode c_M_isBad 27 = .ok (.invokestatic 67, 3) := by decide +kernel
theorem d_M_isBad_30 : decode c_M_isBad 30 = .ok (.iconst 2, 1) := by decide +kernel
theorem d_M_isBad_31 : decode c_M_isBad 31 = .ok (.if_icmp .ne 7, 3) := by decide +kernel
theorem d_M_isBad_34 : decode c_M_isBad 34 = .ok (.iconst 1, 1) := by decide +kernel
theorem d_M_isBad_35 : decode c_M_isBad 35 = .ok (.goto 4, 3) := by decide +kernel
theorem d_M_isBad_38 : decode c_M_isBad 38 = .ok (.iconst 0, 1) := by decide +kernel
theorem d_M_isBad_39 : decode c_M_isBad 39 = .ok (.istore_n 1, 1) := by decide +kernel
theorem d_M_isBad_40 : decode c_M_isBad 40 = .ok (.iinc 2 1, 3) := by decide +kernel
theorem d_M_isBad_43 : decode c_M_isBad 43 = .ok (.goto (-28), 3) := by decide +kernel
theorem d_M_isBad_46 : decode c_M_isBad 46 = .ok (.iload_n 1, 1) := by decide +kernel
theorem d_M_isBad_47 : decode c_M_isBad 47 = .ok (.ifCond .ne 7, 3) := by decide +kernel
theorem d_M_isBad_50 : decode c_M_isBad 50 = .ok (.iconst 1, 1) := by decide +kernel
theorem d_M_isBad_51 : decode c_M_isBad 51 = .ok (.goto 4, 3) := by decide +kernel
theorem d_M_isBad_54 : decode c_M_isBad 54 = .ok (.iconst 0, 1) := by decide +kernel
theorem d_M_isBad_55 : decode c_M_isBad 55 = .ok (.ireturn, 1) := by decide +kernel
theorem d_M_isSafe_0 : decode c_M_isSafe 0 = .ok (.aload_n 0, 1) := by decide +kernel
theorem d_M_isSafe_1 : decode c_M_isSafe 1 = .ok (.aload_n 0, 1) := by decide +kernel
theorem d_M_isSafe_2 : decode c_M_isSafe 2 = .ok (.iload_n 1, 1) := by decide +kernel
theorem d_M_isSafe_3 : decode c_M_isSafe 3 = .ok (.invokevirtual 60, 3) := by decide +kernel
theorem d_M_isSafe_6 : decode c_M_isSafe 6 = .ok (.ifCond .ne 7, 3) := by decide +kernel
theorem d_M_isSafe_9 : decode c_M_isSafe 9 = .ok (.iconst 1, 1) := by decide +kernel
theorem d_M_isSafe_10 : decode c_M_isSafe 10 = .ok (.goto 4, 3) := by decide +kernel
theorem d_M_isSafe_13 : decode c_M_isSafe 13 = .ok (.iconst 0, 1) := by decide +kernel
theorem d_M_isSafe_14 : decode c_M_isSafe 14 = .ok (.iconst 0, 1) := by decide +kernel
theorem d_M_isSafe_15 : decode c_M_isSafe 15 = .ok (.invokevirtual 85, 3) := by decide +kernel
theorem d_M_isSafe_18 : decode c_M_isSafe 18 = .ok (.ifCond .eq 5, 3) := by decide +kernel
theorem d_M_isSafe_21 : decode c_M_isSafe 21 = .ok (.iconst 0, 1) := by decide +kernel
theorem d_M_isSafe_22 : decode c_M_isSafe 22 = .ok (.ireturn, 1) := by decide +kernel
theorem d_M_isSafe_23 : decode c_M_isSafe 23 = .ok (.aload_n 0, 1) := by decide +kernel
theorem d_M_isSafe_24 : decode c_M_isSafe 24 = .ok (.iload_n 1, 1) := by decide +kernel
theorem d_M_isSafe_25 : decode c_M_isSafe 25 = .ok (.invokevirtual 102, 3) := by decide +kernel
theorem d_M_isSafe_28 : decode c_M_isSafe 28 = .ok (.iconst 1, 1) := by decide +kernel
theorem d_M_isSafe_29 : decode c_M_isSafe 29 = .ok (.iload_n 1, 1) := by decide +kernel
theorem d_M_isSafe_30 : decode c_M_isSafe 30 = .ok (.ishl, 1) := by decide +kernel
theorem d_M_isSafe_31 : decode c_M_isSafe 31 = .ok (.ior, 1) := by decide +kernel
theorem d_M_isSafe_32 : decode c_M_isSafe 32 = .ok (.istore_n 2, 1) := by decide +kernel
theorem d_M_isSafe_33 : decode c_M_isSafe 33 = .ok (.iconst 1, 1) := by decide +kernel
theorem d_M_isSafe_34 : decode c_M_isSafe 34 = .ok (.istore_n 3, 1) := by decide +kernel
theorem d_M_isSafe_35 : decode c_M_isSafe 35 = .ok (.iconst 0, 1) := by decide +kernel
theorem d_M_isSafe_36 : decode c_M_isSafe 36 = .ok (.istore 4, 2) := by decide +kernel
theorem d_M_isSafe_38 : decode c_M_isSafe 38 = .ok (.iload 4, 2) := by decide +kernel
theorem d_M_isSafe_40 : decode c_M_isSafe 40 = .ok (.aload_n 0, 1) := by decide +kernel
theorem d_M_isSafe_41 : decode c_M_isSafe 41 = .ok (.getfield 57, 3) := by decide +kernel
theorem d_M_isSafe_44 : decode c_M_isSafe 44 = .ok (.if_icmp .ge 38, 3) := by decide +kernel
theorem d_M_isSafe_47 : decode c_M_isSafe 47 = .ok (.iload_n 2, 1) := by decide +kernel
theorem d_M_isSafe_48 : decode c_M_isSafe 48 = .ok (.iload 4, 2) := by decide +kernel
theorem d_M_isSafe_50 : decode c_M_isSafe 50 = .ok (.ishr, 1) := by decide +kernel
theorem d_M_isSafe_51 : decode c_M_isSafe 51 = .ok (.iconst 1, 1) := by decide +kernel
theorem d_M_isSafe_52 : decode c_M_isSafe 52 = .ok (.iand, 1) := by decide +kernel
theorem d_M_isSafe_53 : decode c_M_isSafe 53 = .ok (.iconst 1, 1) := by decide +kernel
theorem d_M_isSafe_54 : decode c_M_isSafe 54 = .ok (.if_icmp .ne 22, 3) := by decide +kernel
theorem d_M_isSafe_57 : decode c_M_isSafe 57 = .ok (.iload_n 3, 1) := by decide +kernel
theorem d_M_isSafe_58 : decode c_M_isSafe 58 = .ok (.ifCond .eq 16, 3) := by decide +kernel
theorem d_M_isSafe_61 : decode c_M_isSafe 61 = .ok (.aload_n 0, 1) := by decide +kernel
theorem d_M_isSafe_62 : decode c_M_isSafe 62 = .ok (.iload 4, 2) := by decide +kernel
theorem d_M_isSafe_64 : decode c_M_isSafe 64 = .ok (.invokevirtual 99, 3) := by decide +kernel
theorem d_M_isSafe_67 : decode c_M_isSafe 67 = .ok (.ifCond .eq 7, 3) := by decide +kernel
theorem d_M_isSafe_70 : decode c_M_isSafe 70 = .ok (.iconst 1, 1) := by decide +kernel
theorem d_M_isSafe_71 : decode c_M_isSafe 71 = .ok (.goto 4, 3) := by decide +kernel
theorem d_M_isSafe_74 : decode c_M_isSafe 74 = .ok (.iconst 0, 1) := by decide +kernel
theorem d_M_isSafe_75 : decode c_M_isSafe 75 = .ok (.istore_n 3, 1) := by decide +kernel
theorem d_M_isSafe_76 : decode c_M_isSafe 76 = .ok (.iinc 4 1, 3) := by decide +kernel
theorem d_M_isSafe_79 : decode c_M_isSafe 79 = .ok (.goto (-41), 3) := by decide +kernel
theorem d_M_isSafe_82 : decode c_M_isSafe 82 = .ok (.iload_n 3, 1) := by decide +kernel
theorem d_M_isSafe_83 : decode c_M_isSafe 83 = .ok (.ireturn, 1) := by decide +kernel
theorem d_M_reachedFrom_0 : decode c_M_reachedFrom 0 = .ok (.iconst 0, 1) := by decide +kernel
theorem d_M_reachedFrom_1 : decode c_M_reachedFrom 1 = .ok (.istore_n 2, 1) := by decide +kernel
theorem d_M_reachedFrom_2 : decode c_M_reachedFrom 2 = .ok (.iconst 1, 1) := by decide +kernel
theorem d_M_reachedFrom_3 : decode c_M_reachedFrom 3 = .ok (.istore_n 3, 1) := by decide +kernel
theorem d_M_reachedFrom_4 : decode c_M_reachedFrom 4 = .ok (.iload_n 3, 1) := by decide +kernel
theorem d_M_reachedFrom_5 : decode c_M_reachedFrom 5 = .ok (.ifCond .eq 83, 3) := by decide +kernel
theorem d_M_reachedFrom_8 : decode c_M_reachedFrom 8 = .ok (.iconst 0, 1) := by decide +kernel
theorem d_M_reachedFrom_9 : decode c_M_reachedFrom 9 = .ok (.istore_n 3, 1) := by decide +kernel
theorem d_M_reachedFrom_10 : decode c_M_reachedFrom 10 = .ok (.iconst 0, 1) := by decide +kernel
theorem d_M_reachedFrom_11 : decode c_M_reachedFrom 11 = .ok (.istore 4, 2) := by decide +kernel
theorem d_M_reachedFrom_13 : decode c_M_reachedFrom 13 = .ok (.iload 4, 2) := by decide +kernel
theorem d_M_reachedFrom_15 : decode c_M_reachedFrom 15 = .ok (.aload_n 0, 1) := by decide +kernel
theorem d_M_reachedFrom_16 : decode c_M_reachedFrom 16 = .ok (.getfield 64, 3) := by decide +kernel
theorem d_M_reachedFrom_19 : decode c_M_reachedFrom 19 = .ok (.if_icmp .ge 66, 3) := by decide +kernel
theorem d_M_reachedFrom_22 : decode c_M_reachedFrom 22 = .ok (.aload_n 0, 1) := by decide +kernel
theorem d_M_reachedFrom_23 : decode c_M_reachedFrom 23 = .ok (.getfield 13, 3) := by decide +kernel
theorem d_M_reachedFrom_26 : decode c_M_reachedFrom 26 = .ok (.iload 4, 2) := by decide +kernel
theorem d_M_reachedFrom_28 : decode c_M_reachedFrom 28 = .ok (.iaload, 1) := by decide +kernel
theorem d_M_reachedFrom_29 : decode c_M_reachedFrom 29 = .ok (.iload_n 1, 1) := by decide +kernel
theorem d_M_reachedFrom_30 : decode c_M_reachedFrom 30 = .ok (.if_icmp .eq 17, 3) := by decide +kernel
theorem d_M_reachedFrom_33 : decode c_M_reachedFrom 33 = .ok (.iload_n 2, 1) := by decide +kernel
theorem d_M_reachedFrom_34 : decode c_M_reachedFrom 34 = .ok (.aload_n 0, 1) := by decide +kernel
theorem d_M_reachedFrom_35 : decode c_M_reachedFrom 35 = .ok (.getfield 13, 3) := by decide +kernel
theorem d_M_reachedFrom_38 : decode c_M_reachedFrom 38 = .ok (.iload 4, 2) := by decide +kernel
theorem d_M_reachedFrom_40 : decode c_M_reachedFrom 40 = .ok (.iaload, 1) := by decide +kernel
theorem d_M_reachedFrom_41 : decode c_M_reachedFrom 41 = .ok (.ishr, 1) := by decide +kernel
theorem d_M_reachedFrom_42 : decode c_M_reachedFrom 42 = .ok (.iconst 1, 1) := by decide +kernel
theorem d_M_reachedFrom_43 : decode c_M_reachedFrom 43 = .ok (.iand, 1) := by decide +kernel
theorem d_M_reachedFrom_44 : decode c_M_reachedFrom 44 = .ok (.ifCond .eq 35, 3) := by decide +kernel
theorem d_M_reachedFrom_47 : decode c_M_reachedFrom 47 = .ok (.iload_n 2, 1) := by decide +kernel
theorem d_M_reachedFrom_48 : decode c_M_reachedFrom 48 = .ok (.aload_n 0, 1) := by decide +kernel
theorem d_M_reachedFrom_49 : decode c_M_reachedFrom 49 = .ok (.getfield 16, 3) := by decide +kernel
theorem d_M_reachedFrom_52 : decode c_M_reachedFrom 52 = .ok (.iload 4, 2) := by decide +kernel
theorem d_M_reachedFrom_54 : decode c_M_reachedFrom 54 = .ok (.iaload, 1) := by decide +kernel
theorem d_M_reachedFrom_55 : decode c_M_reachedFrom 55 = .ok (.ishr, 1) := by decide +kernel
theorem d_M_reachedFrom_56 : decode c_M_reachedFrom 56 = .ok (.iconst 1, 1) := by decide +kernel
theorem d_M_reachedFrom_57 : decode c_M_reachedFrom 57 = .ok (.iand, 1) := by decide +kernel
theorem d_M_reachedFrom_58 : decode c_M_reachedFrom 58 = .ok (.iconst 1, 1) := by decide +kernel
theorem d_M_reachedFrom_59 : decode c_M_reachedFrom 59 = .ok (.if_icmp .ne 6, 3) := by decide +kernel
theorem d_M_reachedFrom_62 : decode c_M_reachedFrom 62 = .ok (.goto 17, 3) := by decide +kernel
theorem d_M_reachedFrom_65 : decode c_M_reachedFrom 65 = .ok (.iload_n 2, 1) := by decide +kernel
theorem d_M_reachedFrom_66 : decode c_M_reachedFrom 66 = .ok (.iconst 1, 1) := by decide +kernel
theorem d_M_reachedFrom_67 : decode c_M_reachedFrom 67 = .ok (.aload_n 0, 1) := by decide +kernel
theorem d_M_reachedFrom_68 : decode c_M_reachedFrom 68 = .ok (.getfield 16, 3) := by decide +kernel
theorem d_M_reachedFrom_71 : decode c_M_reachedFrom 71 = .ok (.iload 4, 2) := by decide +kernel
theorem d_M_reachedFrom_73 : decode c_M_reachedFrom 73 = .ok (.iaload, 1) := by decide +kernel
theorem d_M_reachedFrom_74 : decode c_M_reachedFrom 74 = .ok (.ishl, 1) := by decide +kernel
theorem d_M_reachedFrom_75 : decode c_M_reachedFrom 75 = .ok (.ior, 1) := by decide +kernel
theorem d_M_reachedFrom_76 : decode c_M_reachedFrom 76 = .ok (.istore_n 2, 1) := by decide +kernel
theorem d_M_reachedFrom_77 : decode c_M_reachedFrom 77 = .ok (.iconst 1, 1) := by decide +kernel
theorem d_M_reachedFrom_78 : decode c_M_reachedFrom 78 = .ok (.istore_n 3, 1) := by decide +kernel
theorem d_M_reachedFrom_79 : decode c_M_reachedFrom 79 = .ok (.iinc 4 1, 3) := by decide +kernel
theorem d_M_reachedFrom_82 : decode c_M_reachedFrom 82 = .ok (.goto (-69), 3) := by decide +kernel
theorem d_M_reachedFrom_85 : decode c_M_reachedFrom 85 = .ok (.goto (-81), 3) := by decide +kernel
theorem d_M_reachedFrom_88 : decode c_M_reachedFrom 88 = .ok (.iload_n 2, 1) := by decide +kernel
theorem d_M_reachedFrom_89 : decode c_M_reachedFrom 89 = .ok (.ireturn, 1) := by decide +kernel
theorem d_M_bad_0 : decode c_M_bad 0 = .ok (.aload_n 0, 1) := by decide +kernel
theorem d_M_bad_1 : decode c_M_bad 1 = .ok (.iload_n 1, 1) := by decide +kernel
theorem d_M_bad_2 : decode c_M_bad 2 = .ok (.invokevirtual 60, 3) := by decide +kernel
theorem d_M_bad_5 : decode c_M_bad 5 = .ok (.ifCond .eq 8, 3) := by decide +kernel
theorem d_M_bad_8 : decode c_M_bad 8 = .ok (.iload_n 2, 1) := by decide +kernel
theorem d_M_bad_9 : decode c_M_bad 9 = .ok (.iconst (-1), 1) := by decide +kernel
theorem d_M_bad_10 : decode c_M_bad 10 = .ok (.if_icmp .ge 7, 3) := by decide +kernel
theorem d_M_bad_13 : decode c_M_bad 13 = .ok (.iconst 1, 1) := by decide +kernel
theorem d_M_bad_14 : decode c_M_bad 14 = .ok (.goto 4, 3) := by decide +kernel
theorem d_M_bad_17 : decode c_M_bad 17 = .ok (.iconst 0, 1) := by decide +kernel
theorem d_M_bad_18 : decode c_M_bad 18 = .ok (.istore_n 3, 1) := by decide +kernel
theorem d_M_bad_19 : decode c_M_bad 19 = .ok (.aload_n 0, 1) := by decide +kernel
theorem d_M_bad_20 : decode c_M_bad 20 = .ok (.iconst 0, 1) := by decide +kernel
theorem d_M_bad_21 : decode c_M_bad 21 = .ok (.iload_n 3, 1) := by decide +kernel
theorem d_M_bad_22 : decode c_M_bad 22 = .ok (.invokevirtual 85, 3) := by decide +kernel
theorem d_M_bad_25 : decode c_M_bad 25 = .ok (.ifCond .eq 26, 3) := by decide +kernel
theorem d_M_bad_28 : decode c_M_bad 28 = .ok (.aload_n 0, 1) := by decide +kernel
theorem d_M_bad_29 : decode c_M_bad 29 = .ok (.getfield 53, 3) := by decide +kernel
theorem d_M_bad_32 : decode c_M_bad 32 = .ok (.iconst 2, 1) := by decide +kernel
theorem d_M_bad_33 : decode c_M_bad 33 = .ok (.if_icmp .ne 8, 3) := by decide +kernel
theorem d_M_bad_36 : decode c_M_bad 36 = .ok (.aload_n 0, 1) := by decide +kernel
theorem d_M_bad_37 : decode c_M_bad 37 = .ok (.iconst 1, 1) := by decide +kernel
theorem d_M_bad_38 : decode c_M_bad 38 = .ok (.putfield 53, 3) := by decide +kernel
theorem d_M_bad_41 : decode c_M_bad 41 = .ok (.iload_n 3, 1) := by decide +kernel
theorem d_M_bad_42 : decode c_M_bad 42 = .ok (.ifCond .eq 7, 3) := by decide +kernel
theorem d_M_bad_45 : decode c_M_bad 45 = .ok (.iconst (-1), 1) := by decide +kernel
theorem d_M_bad_46 : decode c_M_bad 46 = .ok (.goto 4, 3) := by decide +kernel
theorem d_M_bad_49 : decode c_M_bad 49 = .ok (.iconst 0, 1) := by decide +kernel
theorem d_M_bad_50 : decode c_M_bad 50 = .ok (.ireturn, 1) := by decide +kernel
theorem d_M_bad_51 : decode c_M_bad 51 = .ok (.aload_n 0, 1) := by decide +kernel
theorem d_M_bad_52 : decode c_M_bad 52 = .ok (.iload_n 1, 1) := by decide +kernel
theorem d_M_bad_53 : decode c_M_bad 53 = .ok (.invokevirtual 82, 3) := by decide +kernel
theorem d_M_bad_56 : decode c_M_bad 56 = .ok (.pop, 1) := by decide +kernel
theorem d_M_bad_57 : decode c_M_bad 57 = .ok (.iconst 0, 1) := by decide +kernel
theorem d_M_bad_58 : decode c_M_bad 58 = .ok (.istore 4, 2) := by decide +kernel
theorem d_M_bad_60 : decode c_M_bad 60 = .ok (.iload 4, 2) := by decide +kernel
theorem d_M_bad_62 : decode c_M_bad 62 = .ok (.aload_n 0, 1) := by decide +kernel
theorem d_M_bad_63 : decode c_M_bad 63 = .ok (.getfield 71, 3) := by decide +kernel
theorem d_M_bad_66 : decode c_M_bad 66 = .ok (.if_icmp .ge 33, 3) := by decide +kernel
theorem d_M_bad_69 : decode c_M_bad 69 = .ok (.aload_n 0, 1) := by decide +kernel
theorem d_M_bad_70 : decode c_M_bad 70 = .ok (.getfield 25, 3) := by decide +kernel
theorem d_M_bad_73 : decode c_M_bad 73 = .ok (.iload 4, 2) := by decide +kernel
theorem d_M_bad_75 : decode c_M_bad 75 = .ok (.iaload, 1) := by decide +kernel
theorem d_M_bad_76 : decode c_M_bad 76 = .ok (.iload_n 1, 1) := by decide +kernel
theorem d_M_bad_77 : decode c_M_bad 77 = .ok (.if_icmp .ne 16, 3) := by decide +kernel
theorem d_M_bad_80 : decode c_M_bad 80 = .ok (.aload_n 0, 1) := by decide +kernel
theorem d_M_bad_81 : decode c_M_bad 81 = .ok (.getfield 28, 3) := by decide +kernel
theorem d_M_bad_84 : decode c_M_bad 84 = .ok (.iload 4, 2) := by decide +kernel
theorem d_M_bad_86 : decode c_M_bad 86 = .ok (.iaload, 1) := by decide +kernel
theorem d_M_bad_87 : decode c_M_bad 87 = .ok (.invokestatic 96, 3) := by decide +kernel
theorem d_M_bad_90 : decode c_M_bad 90 = .ok (.ifCond .ne 9, 3) := by decide +kernel
theorem d_M_bad_93 : decode c_M_bad 93 = .ok (.iinc 4 1, 3) := by decide +kernel
theorem d_M_bad_96 : decode c_M_bad 96 = .ok (.goto (-36), 3) := by decide +kernel
theorem d_M_bad_99 : decode c_M_bad 99 = .ok (.iload 4, 2) := by decide +kernel
theorem d_M_bad_101 : decode c_M_bad 101 = .ok (.aload_n 0, 1) := by decide +kernel
theorem d_M_bad_102 : decode c_M_bad 102 = .ok (.getfield 71, 3) := by decide +kernel
theorem d_M_bad_105 : decode c_M_bad 105 = .ok (.if_icmp .ne 14, 3) := by decide +kernel
theorem d_M_bad_108 : decode c_M_bad 108 = .ok (.iload_n 2, 1) := by decide +kernel
theorem d_M_bad_109 : decode c_M_bad 109 = .ok (.iconst (-1), 1) := by decide +kernel
theorem d_M_bad_110 : decode c_M_bad 110 = .ok (.if_icmp .ne 7, 3) := by decide +kernel
theorem d_M_bad_113 : decode c_M_bad 113 = .ok (.iconst 0, 1) := by decide +kernel
theorem d_M_bad_114 : decode c_M_bad 114 = .ok (.goto 4, 3) := by decide +kernel
theorem d_M_bad_117 : decode c_M_bad 117 = .ok (.iconst (-1), 1) := by decide +kernel
theorem d_M_bad_118 : decode c_M_bad 118 = .ok (.ireturn, 1) := by decide +kernel
theorem d_M_bad_119 : decode c_M_bad 119 = .ok (.iconst 0, 1) := by decide +kernel
theorem d_M_bad_120 : decode c_M_bad 120 = .ok (.istore 5, 2) := by decide +kernel
theorem d_M_bad_122 : decode c_M_bad 122 = .ok (.iload 4, 2) := by decide +kernel
theorem d_M_bad_124 : decode c_M_bad 124 = .ok (.istore 6, 2) := by decide +kernel
theorem d_M_bad_126 : decode c_M_bad 126 = .ok (.iload 6, 2) := by decide +kernel
theorem d_M_bad_128 : decode c_M_bad 128 = .ok (.iconst (-1), 1) := by decide +kernel
theorem d_M_bad_129 : decode c_M_bad 129 = .ok (.if_icmp .eq 32, 3) := by decide +kernel
theorem d_M_bad_132 : decode c_M_bad 132 = .ok (.aload_n 0, 1) := by decide +kernel
theorem d_M_bad_133 : decode c_M_bad 133 = .ok (.getfield 37, 3) := by decide +kernel
theorem d_M_bad_136 : decode c_M_bad 136 = .ok (.iload 5, 2) := by decide +kernel
theorem d_M_bad_138 : decode c_M_bad 138 = .ok (.aload_n 0, 1) := by decide +kernel
theorem d_M_bad_139 : decode c_M_bad 139 = .ok (.getfield 34, 3) := by decide +kernel
theorem d_M_bad_142 : decode c_M_bad 142 = .ok (.iload 6, 2) := by decide +kernel
theorem d_M_bad_144 : decode c_M_bad 144 = .ok (.iaload, 1) := by decide +kernel
theorem d_M_bad_145 : decode c_M_bad 145 = .ok (.iastore, 1) := by decide +kernel
theorem d_M_bad_146 : decode c_M_bad 146 = .ok (.iinc 5 1, 3) := by decide +kernel
theorem d_M_bad_149 : decode c_M_bad 149 = .ok (.aload_n 0, 1) := by decide +kernel
theorem d_M_bad_150 : decode c_M_bad 150 = .ok (.getfield 31, 3) := by decide +kernel
theorem d_M_bad_153 : decode c_M_bad 153 = .ok (.iload 6, 2) := by decide +kernel
theorem d_M_bad_155 : decode c_M_bad 155 = .ok (.iaload, 1) := by decide +kernel
theorem d_M_bad_156 : decode c_M_bad 156 = .ok (.istore 6, 2) := by decide +kernel
theorem d_M_bad_158 : decode c_M_bad 158 = .ok (.goto (-32), 3) := by decide +kernel
theorem d_M_bad_161 : decode c_M_bad 161 = .ok (.iload_n 2, 1) := by decide +kernel
theorem d_M_bad_162 : decode c_M_bad 162 = .ok (.iconst (-1), 1) := by decide +kernel
theorem d_M_bad_163 : decode c_M_bad 163 = .ok (.if_icmp .ne 8, 3) := by decide +kernel
theorem d_M_bad_166 : decode c_M_bad 166 = .ok (.iload 5, 2) := by decide +kernel
theorem d_M_bad_168 : decode c_M_bad 168 = .ok (.goto 24, 3) := by decide +kernel
theorem d_M_bad_171 : decode c_M_bad 171 = .ok (.iload_n 2, 1) := by decide +kernel
theorem d_M_bad_172 : decode c_M_bad 172 = .ok (.iload 5, 2) := by decide +kernel
theorem d_M_bad_174 : decode c_M_bad 174 = .ok (.if_icmp .ge 17, 3) := by decide +kernel
theorem d_M_bad_177 : decode c_M_bad 177 = .ok (.aload_n 0, 1) := by decide +kernel
theorem d_M_bad_178 : decode c_M_bad 178 = .ok (.getfield 37, 3) := by decide +kernel
theorem d_M_bad_181 : decode c_M_bad 181 = .ok (.iload 5, 2) := by decide +kernel
theorem d_M_bad_183 : decode c_M_bad 183 = .ok (.iconst 1, 1) := by decide +kernel
theorem d_M_bad_184 : decode c_M_bad 184 = .ok (.isub, 1) := by decide +kernel
theorem d_M_bad_185 : decode c_M_bad 185 = .ok (.iload_n 2, 1) := by decide +kernel
theorem d_M_bad_186 : decode c_M_bad 186 = .ok (.isub, 1) := by decide +kernel
theorem d_M_bad_187 : decode c_M_bad 187 = .ok (.iaload, 1) := by decide +kernel
theorem d_M_bad_188 : decode c_M_bad 188 = .ok (.goto 4, 3) := by decide +kernel
theorem d_M_bad_191 : decode c_M_bad 191 = .ok (.iconst (-1), 1) := by decide +kernel
theorem d_M_bad_192 : decode c_M_bad 192 = .ok (.ireturn, 1) := by decide +kernel
theorem d_M_order_0 : decode c_M_order 0 = .ok (.aload_n 0, 1) := by decide +kernel
theorem d_M_order_1 : decode c_M_order 1 = .ok (.iconst 0, 1) := by decide +kernel
theorem d_M_order_2 : decode c_M_order 2 = .ok (.putfield 53, 3) := by decide +kernel
theorem d_M_order_5 : decode c_M_order 5 = .ok (.aload_n 0, 1) := by decide +kernel
theorem d_M_order_6 : decode c_M_order 6 = .ok (.iload_n 1, 1) := by decide +kernel
theorem d_M_order_7 : decode c_M_order 7 = .ok (.invokevirtual 60, 3) := by decide +kernel
theorem d_M_order_10 : decode c_M_order 10 = .ok (.ifCond .eq 8, 3) := by decide +kernel
theorem d_M_order_13 : decode c_M_order 13 = .ok (.iload_n 2, 1) := by decide +kernel
theorem d_M_order_14 : decode c_M_order 14 = .ok (.iconst (-1), 1) := by decide +kernel
theorem d_M_order_15 : decode c_M_order 15 = .ok (.if_icmp .ge 5, 3) := by decide +kernel
theorem d_M_order_18 : decode c_M_order 18 = .ok (.iconst (-1), 1) := by decide +kernel
theorem d_M_order_19 : decode c_M_order 19 = .ok (.ireturn, 1) := by decide +kernel
theorem d_M_order_20 : decode c_M_order 20 = .ok (.aload_n 0, 1) := by decide +kernel
theorem d_M_order_21 : decode c_M_order 21 = .ok (.iload_n 1, 1) := by decide +kernel
theorem d_M_order_22 : decode c_M_order 22 = .ok (.invokevirtual 109, 3) := by decide +kernel
theorem d_M_order_25 : decode c_M_order 25 = .ok (.istore_n 3, 1) := by decide +kernel
theorem d_M_order_26 : decode c_M_order 26 = .ok (.iload_n 2, 1) := by decide +kernel
theorem d_M_order_27 : decode c_M_order 27 = .ok (.iconst (-1), 1) := by decide +kernel
theorem d_M_order_28 : decode c_M_order 28 = .ok (.if_icmp .ne 7, 3) := by decide +kernel
theorem d_M_order_31 : decode c_M_order 31 = .ok (.iload_n 3, 1) := by decide +kernel
theorem d_M_order_32 : decode c_M_order 32 = .ok (.goto 18, 3) := by decide +kernel
theorem d_M_order_35 : decode c_M_order 35 = .ok (.iload_n 2, 1) := by decide +kernel
theorem d_M_order_36 : decode c_M_order 36 = .ok (.iload_n 3, 1) := by decide +kernel
theorem d_M_order_37 : decode c_M_order 37 = .ok (.if_icmp .ge 12, 3) := by decide +kernel
theorem d_M_order_40 : decode c_M_order 40 = .ok (.aload_n 0, 1) := by decide +kernel
theorem d_M_order_41 : decode c_M_order 41 = .ok (.getfield 47, 3) := by decide +kernel
theorem d_M_order_44 : decode c_M_order 44 = .ok (.iload_n 2, 1) := by decide +kernel
theorem d_M_order_45 : decode c_M_order 45 = .ok (.iaload, 1) := by decide +kernel
theorem d_M_order_46 : decode c_M_order 46 = .ok (.goto 4, 3) := by decide +kernel
theorem d_M_order_49 : decode c_M_order 49 = .ok (.iconst (-1), 1) := by decide +kernel
theorem d_M_order_50 : decode c_M_order 50 = .ok (.ireturn, 1) := by decide +kernel
theorem d_M_findOrder_0 : decode c_M_findOrder 0 = .ok (.iconst 0, 1) := by decide +kernel
theorem d_M_findOrder_1 : decode c_M_findOrder 1 = .ok (.istore_n 2, 1) := by decide +kernel
theorem d_M_findOrder_2 : decode c_M_findOrder 2 = .ok (.iconst 0, 1) := by decide +kernel
theorem d_M_findOrder_3 : decode c_M_findOrder 3 = .ok (.istore_n 3, 1) := by decide +kernel
theorem d_M_findOrder_4 : decode c_M_findOrder 4 = .ok (.iload_n 3, 1) := by decide +kernel
theorem d_M_findOrder_5 : decode c_M_findOrder 5 = .ok (.aload_n 0, 1) := by decide +kernel
theorem d_M_findOrder_6 : decode c_M_findOrder 6 = .ok (.getfield 64, 3) := by decide +kernel
theorem d_M_findOrder_9 : decode c_M_findOrder 9 = .ok (.if_icmp .ge 57, 3) := by decide +kernel
theorem d_M_findOrder_12 : decode c_M_findOrder 12 = .ok (.aload_n 0, 1) := by decide +kernel
theorem d_M_findOrder_13 : decode c_M_findOrder 13 = .ok (.getfield 44, 3) := by decide +kernel
theorem d_M_findOrder_16 : decode c_M_findOrder 16 = .ok (.iload_n 3, 1) := by decide +kernel
theorem d_M_findOrder_17 : decode c_M_findOrder 17 = .ok (.aload_n 0, 1) := by decide +kernel
theorem d_M_findOrder_18 : decode c_M_findOrder 18 = .ok (.getfield 13, 3) := by decide +kernel
theorem d_M_findOrder_21 : decode c_M_findOrder 21 = .ok (.iload_n 3, 1) := by decide +kernel
theorem d_M_findOrder_22 : decode c_M_findOrder 22 = .ok (.iaload, 1) := by decide +kernel
theorem d_M_findOrder_23 : decode c_M_findOrder 23 = .ok (.iload_n 1, 1) := by decide +kernel
theorem d_M_findOrder_24 : decode c_M_findOrder 24 = .ok (.if_icmp .ne 17, 3) := by decide +kernel
theorem d_M_findOrder_27 : decode c_M_findOrder 27 = .ok (.aload_n 0, 1) := by decide +kernel
theorem d_M_findOrder_28 : decode c_M_findOrder 28 = .ok (.getfield 16, 3) := by decide +kernel
theorem d_M_findOrder_31 : decode c_M_findOrder 31 = .ok (.iload_n 3, 1) := by decide +kernel
theorem d_M_findOrder_32 : decode c_M_findOrder 32 = .ok (.iaload, 1) := by decide +kernel
theorem d_M_findOrder_33 : decode c_M_findOrder 33 = .ok (.iload_n 1, 1) := by decide +kernel
theorem d_M_findOrder_34 : decode c_M_findOrder 34 = .ok (.if_icmp .ne 7, 3) := by decide +kernel
theorem d_M_findOrder_37 : decode c_M_findOrder 37 = .ok (.iconst 1, 1) := by decide +kernel
theorem d_M_findOrder_38 : decode c_M_findOrder 38 = .ok (.goto 4, 3) := by decide +kernel
theorem d_M_findOrder_41 : decode c_M_findOrder 41 = .ok (.iconst 0, 1) := by decide +kernel
theorem d_M_findOrder_42 : decode c_M_findOrder 42 = .ok (.bastore, 1) := by decide +kernel
theorem d_M_findOrder_43 : decode c_M_findOrder 43 = .ok (.iload_n 2, 1) := by decide +kernel
theorem d_M_findOrder_44 : decode c_M_findOrder 44 = .ok (.aload_n 0, 1) := by decide +kernel
theorem d_M_findOrder_45 : decode c_M_findOrder 45 = .ok (.getfield 44, 3) := by decide +kernel
theorem d_M_findOrder_48 : decode c_M_findOrder 48 = .ok (.iload_n 3, 1) := by decide +kernel
theorem d_M_findOrder_49 : decode c_M_findOrder 49 = .ok (.baload, 1) := by decide +kernel
theorem d_M_findOrder_50 : decode c_M_findOrder 50 = .ok (.ifCond .eq 7, 3) := by decide +kernel
theorem d_M_findOrder_53 : decode c_M_findOrder 53 = .ok (.iconst 1, 1) := by decide +kernel
theorem d_M_findOrder_54 : decode c_M_findOrder 54 = .ok (.goto 4, 3) := by decide +kernel
theorem d_M_findOrder_57 : decode c_M_findOrder 57 = .ok (.iconst 0, 1) := by decide +kernel
theorem d_M_findOrder_58 : decode c_M_findOrder 58 = .ok (.iadd, 1) := by decide +kernel
theorem d_M_findOrder_59 : decode c_M_findOrder 59 = .ok (.istore_n 2, 1) := by decide +kernel
theorem d_M_findOrder_60 : decode c_M_findOrder 60 = .ok (.iinc 3 1, 3) := by decide +kernel
theorem d_M_findOrder_63 : decode c_M_findOrder 63 = .ok (.goto (-59), 3) := by decide +kernel
theorem d_M_findOrder_66 : decode c_M_findOrder 66 = .ok (.iconst 0, 1) := by decide +kernel
theorem d_M_findOrder_67 : decode c_M_findOrder 67 = .ok (.istore_n 3, 1) := by decide +kernel
theorem d_M_findOrder_68 : decode c_M_findOrder 68 = .ok (.iload_n 3, 1) := by decide +kernel
theorem d_M_findOrder_69 : decode c_M_findOrder 69 = .ok (.iconst 4, 1) := by decide +kernel
theorem d_M_findOrder_70 : decode c_M_findOrder 70 = .ok (.if_icmp .ge 16, 3) := by decide +kernel
theorem d_M_findOrder_73 : decode c_M_findOrder 73 = .ok (.aload_n 0, 1) := by decide +kernel
theorem d_M_findOrder_74 : decode c_M_findOrder 74 = .ok (.getfield 40, 3) := by decide +kernel
theorem d_M_findOrder_77 : decode c_M_findOrder 77 = .ok (.iload_n 3, 1) := by decide +kernel
theorem d_M_findOrder_78 : decode c_M_findOrder 78 = .ok (.iconst 0, 1) := by decide +kernel
theorem d_M_findOrder_79 : decode c_M_findOrder 79 = .ok (.bastore, 1) := by decide +kernel
theorem d_M_findOrder_80 : decode c_M_findOrder 80 = .ok (.iinc 3 1, 3) := by decide +kernel
theorem d_M_findOrder_83 : decode c_M_findOrder 83 = .ok (.goto (-15), 3) := by decide +kernel
theorem d_M_findOrder_86 : decode c_M_findOrder 86 = .ok (.iconst 0, 1) := by decide +kernel
theorem d_M_findOrder_87 : decode c_M_findOrder 87 = .ok (.istore_n 3, 1) := by decide +kernel
theorem d_M_findOrder_88 : decode c_M_findOrder 88 = .ok (.iload_n 2, 1) := by decide +kernel
theorem d_M_findOrder_89 : decode c_M_findOrder 89 = .ok (.ifCond .le 128, 3) := by decide +kernel
theorem d_M_findOrder_92 : decode c_M_findOrder 92 = .ok (.iconst 0, 1) := by decide +kernel
theorem d_M_findOrder_93 : decode c_M_findOrder 93 = .ok (.istore 4, 2) := by decide +kernel
theorem d_M_findOrder_95 : decode c_M_findOrder 95 = .ok (.iload 4, 2) := by decide +kernel
theorem d_M_findOrder_97 : decode c_M_findOrder 97 = .ok (.aload_n 0, 1) := by decide +kernel
theorem d_M_findOrder_98 : decode c_M_findOrder 98 = .ok (.getfield 7, 3) := by decide +kernel
theorem d_M_findOrder_101 : decode c_M_findOrder 101 = .ok (.iload_n 1, 1) := by decide +kernel
theorem d_M_findOrder_102 : decode c_M_findOrder 102 = .ok (.iaload, 1) := by decide +kernel
theorem d_M_findOrder_103 : decode c_M_findOrder 103 = .ok (.if_icmp .ge 19, 3) := by decide +kernel
theorem d_M_findOrder_106 : decode c_M_findOrder 106 = .ok (.aload_n 0, 1) := by decide +kernel
theorem d_M_findOrder_107 : decode c_M_findOrder 107 = .ok (.iload 4, 2) := by decide +kernel
theorem d_M_findOrder_109 : decode c_M_findOrder 109 = .ok (.iload_n 1, 1) := by decide +kernel
theorem d_M_findOrder_110 : decode c_M_findOrder 110 = .ok (.invokevirtual 106, 3) := by decide +kernel
theorem d_M_findOrder_113 : decode c_M_findOrder 113 = .ok (.ifCond .ne 9, 3) := by decide +kernel
theorem d_M_findOrder_116 : decode c_M_findOrder 116 = .ok (.iinc 4 1, 3) := by decide +kernel
theorem d_M_findOrder_119 : decode c_M_findOrder 119 = .ok (.goto (-24), 3) := by decide +kernel
theorem d_M_findOrder_122 : decode c_M_findOrder 122 = .ok (.iload 4, 2) := by decide +kernel
theorem d_M_findOrder_124 : decode c_M_findOrder 124 = .ok (.aload_n 0, 1) := by decide +kernel
theorem d_M_findOrder_125 : decode c_M_findOrder 125 = .ok (.getfield 7, 3) := by decide +kernel
theorem d_M_findOrder_128 : decode c_M_findOrder 128 = .ok (.iload_n 1, 1) := by decide +kernel
theorem d_M_findOrder_129 : decode c_M_findOrder 129 = .ok (.iaload, 1) := by decide +kernel
theorem d_M_findOrder_130 : decode c_M_findOrder 130 = .ok (.if_icmp .ne 5, 3) := by decide +kernel
theorem d_M_findOrder_133 : decode c_M_findOrder 133 = .ok (.iconst (-1), 1) := by decide +kernel
theorem d_M_findOrder_134 : decode c_M_findOrder 134 = .ok (.ireturn, 1) := by decide +kernel
theorem d_M_findOrder_135 : decode c_M_findOrder 135 = .ok (.aload_n 0, 1) := by decide +kernel
theorem d_M_findOrder_136 : decode c_M_findOrder 136 = .ok (.getfield 40, 3) := by decide +kernel
theorem d_M_findOrder_139 : decode c_M_findOrder 139 = .ok (.iload 4, 2) := by decide +kernel
theorem d_M_findOrder_141 : decode c_M_findOrder 141 = .ok (.iconst 1, 1) := by decide +kernel
theorem d_M_findOrder_142 : decode c_M_findOrder 142 = .ok (.bastore, 1) := by decide +kernel
theorem d_M_findOrder_143 : decode c_M_findOrder 143 = .ok (.aload_n 0, 1) := by decide +kernel
theorem d_M_findOrder_144 : decode c_M_findOrder 144 = .ok (.getfield 47, 3) := by decide +kernel
theorem d_M_findOrder_147 : decode c_M_findOrder 147 = .ok (.iload_n 3, 1) := by decide +kernel
theorem d_M_findOrder_148 : decode c_M_findOrder 148 = .ok (.iload 4, 2) := by decide +kernel
theorem d_M_findOrder_150 : decode c_M_findOrder 150 = .ok (.iastore, 1) := by decide +kernel
theorem d_M_findOrder_151 : decode c_M_findOrder 151 = .ok (.iinc 3 1, 3) := by decide +kernel
theorem d_M_findOrder_154 : decode c_M_findOrder 154 = .ok (.iconst 0, 1) := by decide +kernel
theorem d_M_findOrder_155 : decode c_M_findOrder 155 = .ok (.istore 5, 2) := by decide +kernel
theorem d_M_findOrder_157 : decode c_M_findOrder 157 = .ok (.iload 5, 2) := by decide +kernel
theorem d_M_findOrder_159 : decode c_M_findOrder 159 = .ok (.aload_n 0, 1) := by decide +kernel
theorem d_M_findOrder_160 : decode c_M_findOrder 160 = .ok (.getfield 64, 3) := by decide +kernel
theorem d_M_findOrder_163 : decode c_M_findOrder 163 = .ok (.if_icmp .ge 51, 3) := by decide +kernel
theorem d_M_findOrder_166 : decode c_M_findOrder 166 = .ok (.aload_n 0, 1) := by decide +kernel
theorem d_M_findOrder_167 : decode c_M_findOrder 167 = .ok (.getfield 44, 3) := by decide +kernel
theorem d_M_findOrder_170 : decode c_M_findOrder 170 = .ok (.iload 5, 2) := by decide +kernel
theorem d_M_findOrder_172 : decode c_M_findOrder 172 = .ok (.baload, 1) := by decide +kernel
theorem d_M_findOrder_173 : decode c_M_findOrder 173 = .ok (.ifCond .eq 35, 3) := by decide +kernel
theorem d_M_findOrder_176 : decode c_M_findOrder 176 = .ok (.aload_n 0, 1) := by decide +kernel
theorem d_M_findOrder_177 : decode c_M_findOrder 177 = .ok (.getfield 19, 3) := by decide +kernel
theorem d_M_findOrder_180 : decode c_M_findOrder 180 = .ok (.iload 5, 2) := by decide +kernel
theorem d_M_findOrder_182 : decode c_M_findOrder 182 = .ok (.iaload, 1) := by decide +kernel
theorem d_M_findOrder_183 : decode c_M_findOrder 183 = .ok (.iload 4, 2) := by decide +kernel
theorem d_M_findOrder_185 : decode c_M_findOrder 185 = .ok (.iload 4, 2) := by decide +kernel
theorem d_M_findOrder_187 : decode c_M_findOrder 187 = .ok (.invokestatic 67, 3) := by decide +kernel
theorem d_M_findOrder_190 : decode c_M_findOrder 190 = .ok (.iconst 2, 1) := by decide +kernel
theorem d_M_findOrder_191 : decode c_M_findOrder 191 = .ok (.if_icmp .eq 6, 3) := by decide +kernel
theorem d_M_findOrder_194 : decode c_M_findOrder 194 = .ok (.goto 14, 3) := by decide +kernel
theorem d_M_findOrder_197 : decode c_M_findOrder 197 = .ok (.aload_n 0, 1) := by decide +kernel
theorem d_M_findOrder_198 : decode c_M_findOrder 198 = .ok (.getfield 44, 3) := by decide +kernel
theorem d_M_findOrder_201 : decode c_M_findOrder 201 = .ok (.iload 5, 2) := by decide +kernel
theorem d_M_findOrder_203 : decode c_M_findOrder 203 = .ok (.iconst 0, 1) := by decide +kernel
theorem d_M_findOrder_204 : decode c_M_findOrder 204 = .ok (.bastore, 1) := by decide +kernel
theorem d_M_findOrder_205 : decode c_M_findOrder 205 = .ok (.iinc 2 (-1), 3) := by decide +kernel
theorem d_M_findOrder_208 : decode c_M_findOrder 208 = .ok (.iinc 5 1, 3) := by decide +kernel
theorem d_M_findOrder_211 : decode c_M_findOrder 211 = .ok (.goto (-54), 3) := by decide +kernel
theorem d_M_findOrder_214 : decode c_M_findOrder 214 = .ok (.goto (-126), 3) := by decide +kernel
theorem d_M_findOrder_217 : decode c_M_findOrder 217 = .ok (.iload_n 3, 1) := by decide +kernel
theorem d_M_findOrder_218 : decode c_M_findOrder 218 = .ok (.ireturn, 1) := by decide +kernel
theorem d_M_mayTake_0 : decode c_M_mayTake 0 = .ok (.aload_n 0, 1) := by decide +kernel
theorem d_M_mayTake_1 : decode c_M_mayTake 1 = .ok (.getfield 40, 3) := by decide +kernel
theorem d_M_mayTake_4 : decode c_M_mayTake 4 = .ok (.iload_n 1, 1) := by decide +kernel
theorem d_M_mayTake_5 : decode c_M_mayTake 5 = .ok (.baload, 1) := by decide +kernel
theorem d_M_mayTake_6 : decode c_M_mayTake 6 = .ok (.ifCond .ne 7, 3) := by decide +kernel
theorem d_M_mayTake_9 : decode c_M_mayTake 9 = .ok (.iconst 1, 1) := by decide +kernel
theorem d_M_mayTake_10 : decode c_M_mayTake 10 = .ok (.goto 4, 3) := by decide +kernel
theorem d_M_mayTake_13 : decode c_M_mayTake 13 = .ok (.iconst 0, 1) := by decide +kernel
theorem d_M_mayTake_14 : decode c_M_mayTake 14 = .ok (.istore_n 3, 1) := by decide +kernel
theorem d_M_mayTake_15 : decode c_M_mayTake 15 = .ok (.iconst 0, 1) := by decide +kernel
theorem d_M_mayTake_16 : decode c_M_mayTake 16 = .ok (.istore 4, 2) := by decide +kernel
theorem d_M_mayTake_18 : decode c_M_mayTake 18 = .ok (.iconst 0, 1) := by decide +kernel
theorem d_M_mayTake_19 : decode c_M_mayTake 19 = .ok (.istore 5, 2) := by decide +kernel
theorem d_M_mayTake_21 : decode c_M_mayTake 21 = .ok (.iload 5, 2) := by decide +kernel
theorem d_M_mayTake_23 : decode c_M_mayTake 23 = .ok (.aload_n 0, 1) := by decide +kernel
theorem d_M_mayTake_24 : decode c_M_mayTake 24 = .ok (.getfield 64, 3) := by decide +kernel
theorem d_M_mayTake_27 : decode c_M_mayTake 27 = .ok (.if_icmp .ge 75, 3) := by decide +kernel
theorem d_M_mayTake_30 : decode c_M_mayTake 30 = .ok (.aload_n 0, 1) := by decide +kernel
theorem d_M_mayTake_31 : decode c_M_mayTake 31 = .ok (.getfield 44, 3) := by decide +kernel
theorem d_M_mayTake_34 : decode c_M_mayTake 34 = .ok (.iload 5, 2) := by decide +kernel
theorem d_M_mayTake_36 : decode c_M_mayTake 36 = .ok (.baload, 1) := by decide +kernel
theorem d_M_mayTake_37 : decode c_M_mayTake 37 = .ok (.ifCond .ne 6, 3) := by decide +kernel
theorem d_M_mayTake_40 : decode c_M_mayTake 40 = .ok (.goto 56, 3) := by decide +kernel
theorem d_M_mayTake_43 : decode c_M_mayTake 43 = .ok (.iload_n 3, 1) := by decide +kernel
theorem d_M_mayTake_44 : decode c_M_mayTake 44 = .ok (.ifCond .eq 22, 3) := by decide +kernel
theorem d_M_mayTake_47 : decode c_M_mayTake 47 = .ok (.aload_n 0, 1) := by decide +kernel
theorem d_M_mayTake_48 : decode c_M_mayTake 48 = .ok (.getfield 19, 3) := by decide +kernel
theorem d_M_mayTake_51 : decode c_M_mayTake 51 = .ok (.iload 5, 2) := by decide +kernel
theorem d_M_mayTake_53 : decode c_M_mayTake 53 = .ok (.iaload, 1) := by decide +kernel
theorem d_M_mayTake_54 : decode c_M_mayTake 54 = .ok (.iload_n 1, 1) := by decide +kernel
theorem d_M_mayTake_55 : decode c_M_mayTake 55 = .ok (.iload_n 1, 1) := by decide +kernel
theorem d_M_mayTake_56 : decode c_M_mayTake 56 = .ok (.invokestatic 67, 3) := by decide +kernel
theorem d_M_mayTake_59 : decode c_M_mayTake 59 = .ok (.ifCond .le 7, 3) := by decide +kernel
theorem d_M_mayTake_62 : decode c_M_mayTake 62 = .ok (.iconst 1, 1) := by decide +kernel
theorem d_M_mayTake_63 : decode c_M_mayTake 63 = .ok (.goto 4, 3) := by decide +kernel
theorem d_M_mayTake_66 : decode c_M_mayTake 66 = .ok (.iconst 0, 1) := by decide +kernel
theorem d_M_mayTake_67 : decode c_M_mayTake 67 = .ok (.istore_n 3, 1) := by decide +kernel
theorem d_M_mayTake_68 : decode c_M_mayTake 68 = .ok (.iload 4, 2) := by decide +kernel
theorem d_M_mayTake_70 : decode c_M_mayTake 70 = .ok (.ifCond .ne 19, 3) := by decide +kernel
theorem d_M_mayTake_73 : decode c_M_mayTake 73 = .ok (.aload_n 0, 1) := by decide +kernel
theorem d_M_mayTake_74 : decode c_M_mayTake 74 = .ok (.getfield 19, 3) := by decide +kernel
theorem d_M_mayTake_77 : decode c_M_mayTake 77 = .ok (.iload 5, 2) := by decide +kernel
theorem d_M_mayTake_79 : decode c_M_mayTake 79 = .ok (.iaload, 1) := by decide +kernel
theorem d_M_mayTake_80 : decode c_M_mayTake 80 = .ok (.iload_n 1, 1) := by decide +kernel
theorem d_M_mayTake_81 : decode c_M_mayTake 81 = .ok (.iload_n 1, 1) := by decide +kernel
theorem d_M_mayTake_82 : decode c_M_mayTake 82 = .ok (.invokestatic 67, 3) := by decide +kernel
theorem d_M_mayTake_85 : decode c_M_mayTake 85 = .ok (.iconst 2, 1) := by decide +kernel
theorem d_M_mayTake_86 : decode c_M_mayTake 86 = .ok (.if_icmp .ne 7, 3) := by decide +kernel
theorem d_M_mayTake_89 : decode c_M_mayTake 89 = .ok (.iconst 1, 1) := by decide +kernel
theorem d_M_mayTake_90 : decode c_M_mayTake 90 = .ok (.goto 4, 3) := by decide +kernel
theorem d_M_mayTake_93 : decode c_M_mayTake 93 = .ok (.iconst 0, 1) := by decide +kernel
theorem d_M_mayTake_94 : decode c_M_mayTake 94 = .ok (.istore 4, 2) := by decide +kernel
theorem d_M_mayTake_96 : decode c_M_mayTake 96 = .ok (.iinc 5 1, 3) := by decide +kernel
theorem d_M_mayTake_99 : decode c_M_mayTake 99 = .ok (.goto (-78), 3) := by decide +kernel
theorem d_M_mayTake_102 : decode c_M_mayTake 102 = .ok (.iload_n 3, 1) := by decide +kernel
theorem d_M_mayTake_103 : decode c_M_mayTake 103 = .ok (.ifCond .eq 12, 3) := by decide +kernel
theorem d_M_mayTake_106 : decode c_M_mayTake 106 = .ok (.iload 4, 2) := by decide +kernel
theorem d_M_mayTake_108 : decode c_M_mayTake 108 = .ok (.ifCond .eq 7, 3) := by decide +kernel
theorem d_M_mayTake_111 : decode c_M_mayTake 111 = .ok (.iconst 1, 1) := by decide +kernel
theorem d_M_mayTake_112 : decode c_M_mayTake 112 = .ok (.goto 4, 3) := by decide +kernel
theorem d_M_mayTake_115 : decode c_M_mayTake 115 = .ok (.iconst 0, 1) := by decide +kernel
theorem d_M_mayTake_116 : decode c_M_mayTake 116 = .ok (.ireturn, 1) := by decide +kernel
theorem d_M_reached_0 : decode c_M_reached 0 = .ok (.aload_n 0, 1) := by decide +kernel
theorem d_M_reached_1 : decode c_M_reached 1 = .ok (.iconst 0, 1) := by decide +kernel
theorem d_M_reached_2 : decode c_M_reached 2 = .ok (.putfield 53, 3) := by decide +kernel
theorem d_M_reached_5 : decode c_M_reached 5 = .ok (.aload_n 0, 1) := by decide +kernel
theorem d_M_reached_6 : decode c_M_reached 6 = .ok (.iload_n 1, 1) := by decide +kernel
theorem d_M_reached_7 : decode c_M_reached 7 = .ok (.invokevirtual 60, 3) := by decide +kernel
theorem d_M_reached_10 : decode c_M_reached 10 = .ok (.ifCond .eq 11, 3) := by decide +kernel
theorem d_M_reached_13 : decode c_M_reached 13 = .ok (.aload_n 0, 1) := by decide +kernel
theorem d_M_reached_14 : decode c_M_reached 14 = .ok (.iload_n 1, 1) := by decide +kernel
theorem d_M_reached_15 : decode c_M_reached 15 = .ok (.invokevirtual 102, 3) := by decide +kernel
theorem d_M_reached_18 : decode c_M_reached 18 = .ok (.goto 4, 3) := by decide +kernel
theorem d_M_reached_21 : decode c_M_reached 21 = .ok (.iconst (-1), 1) := by decide +kernel
theorem d_M_reached_22 : decode c_M_reached 22 = .ok (.ireturn, 1) := by decide +kernel
theorem d_M_product_0 : decode c_M_product 0 = .ok (.aload_n 0, 1) := by decide +kernel
theorem d_M_product_1 : decode c_M_product 1 = .ok (.iconst 0, 1) := by decide +kernel
theorem d_M_product_2 : decode c_M_product 2 = .ok (.putfield 53, 3) := by decide +kernel
theorem d_M_product_5 : decode c_M_product 5 = .ok (.iload_n 3, 1) := by decide +kernel
theorem d_M_product_6 : decode c_M_product 6 = .ok (.iconst 1, 1) := by decide +kernel
theorem d_M_product_7 : decode c_M_product 7 = .ok (.if_icmp .lt 9, 3) := by decide +kernel
theorem d_M_product_10 : decode c_M_product 10 = .ok (.iload_n 3, 1) := by decide +kernel
theorem d_M_product_11 : decode c_M_product 11 = .ok (.bipush 12, 2) := by decide +kernel
theorem d_M_product_13 : decode c_M_product 13 = .ok (.if_icmp .le 6, 3) := by decide +kernel
theorem d_M_product_16 : decode c_M_product 16 = .ok (.bipush (-2), 2) := by decide +kernel
theorem d_M_product_18 : decode c_M_product 18 = .ok (.ireturn, 1) := by decide +kernel
theorem d_M_product_19 : decode c_M_product 19 = .ok (.iconst 0, 1) := by decide +kernel
theorem d_M_product_20 : decode c_M_product 20 = .ok (.istore 4, 2) := by decide +kernel
theorem d_M_product_22 : decode c_M_product 22 = .ok (.iconst (-1), 1) := by decide +kernel
theorem d_M_product_23 : decode c_M_product 23 = .ok (.istore 5, 2) := by decide +kernel
theorem d_M_product_25 : decode c_M_product 25 = .ok (.iconst 0, 1) := by decide +kernel
theorem d_M_product_26 : decode c_M_product 26 = .ok (.istore 6, 2) := by decide +kernel
theorem d_M_product_28 : decode c_M_product 28 = .ok (.iload 6, 2) := by decide +kernel
theorem d_M_product_30 : decode c_M_product 30 = .ok (.iload_n 3, 1) := by decide +kernel
theorem d_M_product_31 : decode c_M_product 31 = .ok (.if_icmp .ge 89, 3) := by decide +kernel
theorem d_M_product_34 : decode c_M_product 34 = .ok (.lload_n 1, 1) := by decide +kernel
theorem d_M_product_35 : decode c_M_product 35 = .ok (.iconst 5, 1) := by decide +kernel
theorem d_M_product_36 : decode c_M_product 36 = .ok (.iload 6, 2) := by decide +kernel
theorem d_M_product_38 : decode c_M_product 38 = .ok (.imul, 1) := by decide +kernel
theorem d_M_product_39 : decode c_M_product 39 = .ok (.lshr, 1) := by decide +kernel
theorem d_M_product_40 : decode c_M_product 40 = .ok (.ldc2_w 112, 3) := by decide +kernel
theorem d_M_product_43 : decode c_M_product 43 = .ok (.land, 1) := by decide +kernel
theorem d_M_product_44 : decode c_M_product 44 = .ok (.l2i, 1) := by decide +kernel
theorem d_M_product_45 : decode c_M_product 45 = .ok (.istore 7, 2) := by decide +kernel
theorem d_M_product_47 : decode c_M_product 47 = .ok (.iload 7, 2) := by decide +kernel
theorem d_M_product_49 : decode c_M_product 49 = .ok (.aload_n 0, 1) := by decide +kernel
theorem d_M_product_50 : decode c_M_product 50 = .ok (.getfield 64, 3) := by decide +kernel
theorem d_M_product_53 : decode c_M_product 53 = .ok (.if_icmp .ge 20, 3) := by decide +kernel
theorem d_M_product_56 : decode c_M_product 56 = .ok (.iload 6, 2) := by decide +kernel
theorem d_M_product_58 : decode c_M_product 58 = .ok (.ifCond .le 18, 3) := by decide +kernel
theorem d_M_product_61 : decode c_M_product 61 = .ok (.aload_n 0, 1) := by decide +kernel
theorem d_M_product_62 : decode c_M_product 62 = .ok (.getfield 13, 3) := by decide +kernel
theorem d_M_product_65 : decode c_M_product 65 = .ok (.iload 7, 2) := by decide +kernel
theorem d_M_product_67 : decode c_M_product 67 = .ok (.iaload, 1) := by decide +kernel
theorem d_M_product_68 : decode c_M_product 68 = .ok (.iload 5, 2) := by decide +kernel
theorem d_M_product_70 : decode c_M_product 70 = .ok (.if_icmp .eq 6, 3) := by decide +kernel
theorem d_M_product_73 : decode c_M_product 73 = .ok (.bipush (-2), 2) := by decide +kernel
theorem d_M_product_75 : decode c_M_product 75 = .ok (.ireturn, 1) := by decide +kernel
theorem d_M_product_76 : decode c_M_product 76 = .ok (.iload 6, 2) := by decide +kernel
theorem d_M_product_78 : decode c_M_product 78 = .ok (.ifCond .ne 13, 3) := by decide +kernel
theorem d_M_product_81 : decode c_M_product 81 = .ok (.aload_n 0, 1) := by decide +kernel
theorem d_M_product_82 : decode c_M_product 82 = .ok (.getfield 19, 3) := by decide +kernel
theorem d_M_product_85 : decode c_M_product 85 = .ok (.iload 7, 2) := by decide +kernel
theorem d_M_product_87 : decode c_M_product 87 = .ok (.iaload, 1) := by decide +kernel
theorem d_M_product_88 : decode c_M_product 88 = .ok (.goto 15, 3) := by decide +kernel
theorem d_M_product_91 : decode c_M_product 91 = .ok (.iload 4, 2) := by decide +kernel
theorem d_M_product_93 : decode c_M_product 93 = .ok (.aload_n 0, 1) := by decide +kernel
theorem d_M_product_94 : decode c_M_product 94 = .ok (.getfield 19, 3) := by decide +kernel
theorem d_M_product_97 : decode c_M_product 97 = .ok (.iload 7, 2) := by decide +kernel
theorem d_M_product_99 : decode c_M_product 99 = .ok (.iaload, 1) := by decide +kernel
theorem d_M_product_100 : decode c_M_product 100 = .ok (.invokestatic 78, 3) := by decide +kernel
theorem d_M_product_103 : decode c_M_product 103 = .ok (.istore 4, 2) := by decide +kernel
theorem d_M_product_105 : decode c_M_product 105 = .ok (.aload_n 0, 1) := by decide +kernel
theorem d_M_product_106 : decode c_M_product 106 = .ok (.getfield 16, 3) := by decide +kernel
theorem d_M_product_109 : decode c_M_product 109 = .ok (.iload 7, 2) := by decide +kernel
theorem d_M_product_111 : decode c_M_product 111 = .ok (.iaload, 1) := by decide +kernel
theorem d_M_product_112 : decode c_M_product 112 = .ok (.istore 5, 2) := by decide +kernel
theorem d_M_product_114 : decode c_M_product 114 = .ok (.iinc 6 1, 3) := by decide +kernel
theorem d_M_product_117 : decode c_M_product 117 = .ok (.goto (-89), 3) := by decide +kernel
theorem d_M_product_120 : decode c_M_product 120 = .ok (.iload 4, 2) := by decide +kernel
theorem d_M_product_122 : decode c_M_product 122 = .ok (.ireturn, 1) := by decide +kernel
theorem d_M_about_0 : decode c_M_about 0 = .ok (.aload_n 0, 1) := by decide +kernel
theorem d_M_about_1 : decode c_M_about 1 = .ok (.iconst 0, 1) := by decide +kernel
theorem d_M_about_2 : decode c_M_about 2 = .ok (.putfield 53, 3) := by decide +kernel
theorem d_M_about_5 : decode c_M_about 5 = .ok (.iload_n 1, 1) := by decide +kernel
theorem d_M_about_6 : decode c_M_about 6 = .ok (.ifCond .ne 10, 3) := by decide +kernel
theorem d_M_about_9 : decode c_M_about 9 = .ok (.aload_n 0, 1) := by decide +kernel
theorem d_M_about_10 : decode c_M_about 10 = .ok (.getfield 57, 3) := by decide +kernel
theorem d_M_about_13 : decode c_M_about 13 = .ok (.goto 16, 3) := by decide +kernel
theorem d_M_about_16 : decode c_M_about 16 = .ok (.iload_n 1, 1) := by decide +kernel
theorem d_M_about_17 : decode c_M_about 17 = .ok (.iconst 1, 1) := by decide +kernel
theorem d_M_about_18 : decode c_M_about 18 = .ok (.if_icmp .ne 10, 3) := by decide +kernel
theorem d_M_about_21 : decode c_M_about 21 = .ok (.aload_n 0, 1) := by decide +kernel
theorem d_M_about_22 : decode c_M_about 22 = .ok (.getfield 64, 3) := by decide +kernel
theorem d_M_about_25 : decode c_M_about 25 = .ok (.goto 4, 3) := by decide +kernel
theorem d_M_about_28 : decode c_M_about 28 = .ok (.iconst (-1), 1) := by decide +kernel
theorem d_M_about_29 : decode c_M_about 29 = .ok (.ireturn, 1) := by decide +kernel
