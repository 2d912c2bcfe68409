theorem d_P_addCall_35 : decode c_P_addCall 35 = .ok (.iload_n 1, 1) := by decide +kernel
theorem d_P_addCall_36 : decode c_P_addCall 36 = .ok (.iastore, 1) := by decide +kernel
theorem d_P_addCall_37 : decode c_P_addCall 37 = .ok (.aload_n 0, 1) := by decide +kernel
theorem d_P_addCall_38 : decode c_P_addCall 38 = .ok (.getfield 18, 3) := by decide +kernel
theorem d_P_addCall_41 : decode c_P_addCall 41 = .ok (.aload_n 0, 1) := by decide +kernel
theorem d_P_addCall_42 : decode c_P_addCall 42 = .ok (.getfield 28, 3) := by decide +kernel
theorem d_P_addCall_45 : decode c_P_addCall 45 = .ok (.iload_n 2, 1) := by decide +kernel
theorem d_P_addCall_46 : decode c_P_addCall 46 = .ok (.iastore, 1) := by decide +kernel
theorem d_P_addCall_47 : decode c_P_addCall 47 = .ok (.aload_n 0, 1) := by decide +kernel
theorem d_P_addCall_48 : decode c_P_addCall 48 = .ok (.getfield 21, 3) := by decide +kernel
theorem d_P_addCall_51 : decode c_P_addCall 51 = .ok (.aload_n 0, 1) := by decide +kernel
theorem d_P_addCall_52 : decode c_P_addCall 52 = .ok (.getfield 28, 3) := by decide +kernel
theorem d_P_addCall_55 : decode c_P_addCall 55 = .ok (.iload_n 3, 1) := by decide +kernel
theorem d_P_addCall_56 : decode c_P_addCall 56 = .ok (.aload_n 0, 1) := by decide +kernel
theorem d_P_addCall_57 : decode c_P_addCall 57 = .ok (.getfield 9, 3) := by decide +kernel
theorem d_P_addCall_60 : decode c_P_addCall 60 = .ok (.iload_n 1, 1) := by decide +kernel
theorem d_P_addCall_61 : decode c_P_addCall 61 = .ok (.iaload, 1) := by decide +kernel
theorem d_P_addCall_62 : decode c_P_addCall 62 = .ok (.aload_n 0, 1) := by decide +kernel
theorem d_P_addCall_63 : decode c_P_addCall 63 = .ok (.getfield 9, 3) := by decide +kernel
theorem d_P_addCall_66 : decode c_P_addCall 66 = .ok (.iload_n 2, 1) := by decide +kernel
theorem d_P_addCall_67 : decode c_P_addCall 67 = .ok (.iaload, 1) := by decide +kernel
theorem d_P_addCall_68 : decode c_P_addCall 68 = .ok (.invokestatic 35, 3) := by decide +kernel
theorem d_P_addCall_71 : decode c_P_addCall 71 = .ok (.iastore, 1) := by decide +kernel
theorem d_P_addCall_72 : decode c_P_addCall 72 = .ok (.aload_n 0, 1) := by decide +kernel
theorem d_P_addCall_73 : decode c_P_addCall 73 = .ok (.dup, 1) := by decide +kernel
theorem d_P_addCall_74 : decode c_P_addCall 74 = .ok (.getfield 28, 3) := by decide +kernel
theorem d_P_addCall_77 : decode c_P_addCall 77 = .ok (.iconst 1, 1) := by decide +kernel
theorem d_P_addCall_78 : decode c_P_addCall 78 = .ok (.iadd, 1) := by decide +kernel
theorem d_P_addCall_79 : decode c_P_addCall 79 = .ok (.putfield 28, 3) := by decide +kernel
theorem d_P_addCall_82 : decode c_P_addCall 82 = .ok (.aload_n 0, 1) := by decide +kernel
theorem d_P_addCall_83 : decode c_P_addCall 83 = .ok (.getfield 28, 3) := by decide +kernel
theorem d_P_addCall_86 : decode c_P_addCall 86 = .ok (.iconst 1, 1) := by decide +kernel
theorem d_P_addCall_87 : decode c_P_addCall 87 = .ok (.isub, 1) := by decide +kernel
theorem d_P_addCall_88 : decode c_P_addCall 88 = .ok (.ireturn, 1) := by decide +kernel
theorem d_G_clean_0 : decode c_G_clean 0 = .ok (.iconst 1, 1) := by decide +kernel
theorem d_G_clean_1 : decode c_G_clean 1 = .ok (.iconst 2, 1) := by decide +kernel
theorem d_G_clean_2 : decode c_G_clean 2 = .ok (.iload_n 2, 1) := by decide +kernel
theorem d_G_clean_3 : decode c_G_clean 3 = .ok (.imul, 1) := by decide +kernel
theorem d_G_clean_4 : decode c_G_clean 4 = .ok (.ishl, 1) := by decide +kernel
theorem d_G_clean_5 : decode c_G_clean 5 = .ok (.iconst 1, 1) := by decide +kernel
theorem d_G_clean_6 : decode c_G_clean 6 = .ok (.isub, 1) := by decide +kernel
theorem d_G_clean_7 : decode c_G_clean 7 = .ok (.istore_n 3, 1) := by decide +kernel
theorem d_G_clean_8 : decode c_G_clean 8 = .ok (.iconst 0, 1) := by decide +kernel
theorem d_G_clean_9 : decode c_G_clean 9 = .ok (.istore 4, 2) := by decide +kernel
theorem d_G_clean_11 : decode c_G_clean 11 = .ok (.iconst 0, 1) := by decide +kernel
theorem d_G_clean_12 : decode c_G_clean 12 = .ok (.istore 5, 2) := by decide +kernel
theorem d_G_clean_14 : decode c_G_clean 14 = .ok (.iload 5, 2) := by decide +kernel
theorem d_G_clean_16 : decode c_G_clean 16 = .ok (.iload_n 1, 1) := by decide +kernel
theorem d_G_clean_17 : decode c_G_clean 17 = .ok (.if_icmp .ge 21, 3) := by decide +kernel
theorem d_G_clean_20 : decode c_G_clean 20 = .ok (.iload 4, 2) := by decide +kernel
theorem d_G_clean_22 : decode c_G_clean 22 = .ok (.iload_n 3, 1) := by decide +kernel
theorem d_G_clean_23 : decode c_G_clean 23 = .ok (.bipush 8, 2) := by decide +kernel
theorem d_G_clean_25 : decode c_G_clean 25 = .ok (.iload 5, 2) := by decide +kernel
theorem d_G_clean_27 : decode c_G_clean 27 = .ok (.imul, 1) := by decide +kernel
theorem d_G_clean_28 : decode c_G_clean 28 = .ok (.ishl, 1) := by decide +kernel
theorem d_G_clean_29 : decode c_G_clean 29 = .ok (.ior, 1) := by decide +kernel
theorem d_G_clean_30 : decode c_G_clean 30 = .ok (.istore 4, 2) := by decide +kernel
theorem d_G_clean_32 : decode c_G_clean 32 = .ok (.iinc 5 1, 3) := by decide +kernel
theorem d_G_clean_35 : decode c_G_clean 35 = .ok (.goto (-21), 3) := by decide +kernel
theorem d_G_clean_38 : decode c_G_clean 38 = .ok (.iload_n 0, 1) := by decide +kernel
theorem d_G_clean_39 : decode c_G_clean 39 = .ok (.iload 4, 2) := by decide +kernel
theorem d_G_clean_41 : decode c_G_clean 41 = .ok (.iand, 1) := by decide +kernel
theorem d_G_clean_42 : decode c_G_clean 42 = .ok (.invokestatic 9, 3) := by decide +kernel
theorem d_G_clean_45 : decode c_G_clean 45 = .ok (.ireturn, 1) := by decide +kernel
theorem d_X_graphs_0 : decode c_X_graphs 0 = .ok (.aload_n 0, 1) := by decide +kernel
theorem d_X_graphs_1 : decode c_X_graphs 1 = .ok (.getfield 12, 3) := by decide +kernel
theorem d_X_graphs_4 : decode c_X_graphs 4 = .ok (.iload_n 1, 1) := by decide +kernel
theorem d_X_graphs_5 : decode c_X_graphs 5 = .ok (.invokevirtual 53, 3) := by decide +kernel
theorem d_X_graphs_8 : decode c_X_graphs 8 = .ok (.ifCond .eq 14, 3) := by decide +kernel
theorem d_X_graphs_11 : decode c_X_graphs 11 = .ok (.aload_n 0, 1) := by decide +kernel
theorem d_X_graphs_12 : decode c_X_graphs 12 = .ok (.getfield 12, 3) := by decide +kernel
theorem d_X_graphs_15 : decode c_X_graphs 15 = .ok (.iload_n 2, 1) := by decide +kernel
theorem d_X_graphs_16 : decode c_X_graphs 16 = .ok (.invokevirtual 53, 3) := by decide +kernel
theorem d_X_graphs_19 : decode c_X_graphs 19 = .ok (.ifCond .ne 5, 3) := by decide +kernel
theorem d_X_graphs_22 : decode c_X_graphs 22 = .ok (.iconst (-1), 1) := by decide +kernel
theorem d_X_graphs_23 : decode c_X_graphs 23 = .ok (.ireturn, 1) := by decide +kernel
theorem d_X_graphs_24 : decode c_X_graphs 24 = .ok (.aload_n 0, 1) := by decide +kernel
theorem d_X_graphs_25 : decode c_X_graphs 25 = .ok (.invokevirtual 84, 3) := by decide +kernel
theorem d_X_graphs_28 : decode c_X_graphs 28 = .ok (.aload_n 0, 1) := by decide +kernel
theorem d_X_graphs_29 : decode c_X_graphs 29 = .ok (.getfield 19, 3) := by decide +kernel
theorem d_X_graphs_32 : decode c_X_graphs 32 = .ok (.iload_n 1, 1) := by decide +kernel
theorem d_X_graphs_33 : decode c_X_graphs 33 = .ok (.iload_n 2, 1) := by decide +kernel
theorem d_X_graphs_34 : decode c_X_graphs 34 = .ok (.invokevirtual 87, 3) := by decide +kernel
theorem d_X_graphs_37 : decode c_X_graphs 37 = .ok (.ireturn, 1) := by decide +kernel
theorem d_X_needClosure_0 : decode c_X_needClosure 0 = .ok (.aload_n 0, 1) := by decide +kernel
theorem d_X_needClosure_1 : decode c_X_needClosure 1 = .ok (.getfield 19, 3) := by decide +kernel
theorem d_X_needClosure_4 : decode c_X_needClosure 4 = .ok (.aload_n 0, 1) := by decide +kernel
theorem d_X_needClosure_5 : decode c_X_needClosure 5 = .ok (.getfield 12, 3) := by decide +kernel
theorem d_X_needClosure_8 : decode c_X_needClosure 8 = .ok (.invokevirtual 127, 3) := by decide +kernel
theorem d_X_needClosure_11 : decode c_X_needClosure 11 = .ok (.aload_n 0, 1) := by decide +kernel
theorem d_X_needClosure_12 : decode c_X_needClosure 12 = .ok (.getfield 19, 3) := by decide +kernel
theorem d_X_needClosure_15 : decode c_X_needClosure 15 = .ok (.getfield 131, 3) := by decide +kernel
theorem d_X_needClosure_18 : decode c_X_needClosure 18 = .ok (.ifCond .eq 13, 3) := by decide +kernel
theorem d_X_needClosure_21 : decode c_X_needClosure 21 = .ok (.new 135, 3) := by decide +kernel
theorem d_X_needClosure_24 : decode c_X_needClosure 24 = .ok (.dup, 1) := by decide +kernel
theorem d_X_needClosure_25 : decode c_X_needClosure 25 = .ok (.ldc 137, 2) := by decide +kernel
theorem d_X_needClosure_27 : decode c_X_needClosure 27 = .ok (.invokespecial 139, 3) := by decide +kernel
theorem d_X_needClosure_30 : decode c_X_needClosure 30 = .ok (.athrow, 1) := by decide +kernel
theorem d_X_needClosure_31 : decode c_X_needClosure 31 = .ok (.return_, 1) := by decide +kernel
theorem d_C_gather_0 : decode c_C_gather 0 = .ok (.aload_n 0, 1) := by decide +kernel
theorem d_C_gather_1 : decode c_C_gather 1 = .ok (.getfield 36, 3) := by decide +kernel
theorem d_C_gather_4 : decode c_C_gather 4 = .ok (.ifCond .eq 4, 3) := by decide +kernel
theorem d_C_gather_7 : decode c_C_gather 7 = .ok (.return_, 1) := by decide +kernel
theorem d_C_gather_8 : decode c_C_gather 8 = .ok (.aload_n 0, 1) := by decide +kernel
theorem d_C_gather_9 : decode c_C_gather 9 = .ok (.iconst 0, 1) := by decide +kernel
theorem d_C_gather_10 : decode c_C_gather 10 = .ok (.putfield 40, 3) := by decide +kernel
theorem d_C_gather_13 : decode c_C_gather 13 = .ok (.aload_n 0, 1) := by decide +kernel
theorem d_C_gather_14 : decode c_C_gather 14 = .ok (.iconst 0, 1) := by decide +kernel
theorem d_C_gather_15 : decode c_C_gather 15 = .ok (.putfield 44, 3) := by decide +kernel
theorem d_C_gather_18 : decode c_C_gather 18 = .ok (.iconst 0, 1) := by decide +kernel
theorem d_C_gather_19 : decode c_C_gather 19 = .ok (.istore_n 2, 1) := by decide +kernel
theorem d_C_gather_20 : decode c_C_gather 20 = .ok (.iload_n 2, 1) := by decide +kernel
theorem d_C_gather_21 : decode c_C_gather 21 = .ok (.aload_n 1, 1) := by decide +kernel
theorem d_C_gather_22 : decode c_C_gather 22 = .ok (.getfield 47, 3) := by decide +kernel
theorem d_C_gather_25 : decode c_C_gather 25 = .ok (.if_icmp .ge 55, 3) := by decide +kernel
theorem d_C_gather_28 : decode c_C_gather 28 = .ok (.aload_n 0, 1) := by decide +kernel
theorem d_C_gather_29 : decode c_C_gather 29 = .ok (.getfield 44, 3) := by decide +kernel
theorem d_C_gather_32 : decode c_C_gather 32 = .ok (.ifCond .ne 48, 3) := by decide +kernel
theorem d_C_gather_35 : decode c_C_gather 35 = .ok (.aload_n 0, 1) := by decide +kernel
theorem d_C_gather_36 : decode c_C_gather 36 = .ok (.getfield 30, 3) := by decide +kernel
theorem d_C_gather_39 : decode c_C_gather 39 = .ok (.iload_n 2, 1) := by decide +kernel
theorem d_C_gather_40 : decode c_C_gather 40 = .ok (.aload_n 0, 1) := by decide +kernel
theorem d_C_gather_41 : decode c_C_gather 41 = .ok (.getfield 40, 3) := by decide +kernel
theorem d_C_gather_44 : decode c_C_gather 44 = .ok (.iastore, 1) := by decide +kernel
theorem d_C_gather_45 : decode c_C_gather 45 = .ok (.aload_n 0, 1) := by decide +kernel
theorem d_C_gather_46 : decode c_C_gather 46 = .ok (.aload_n 1, 1) := by decide +kernel
theorem d_C_gather_47 : decode c_C_gather 47 = .ok (.iload_n 2, 1) := by decide +kernel
theorem d_C_gather_48 : decode c_C_gather 48 = .ok (.invokevirtual 52, 3) := by decide +kernel
theorem d_C_gather_51 : decode c_C_gather 51 = .ok (.aload_n 0, 1) := by decide +kernel
theorem d_C_gather_52 : decode c_C_gather 52 = .ok (.getfield 30, 3) := by decide +kernel
theorem d_C_gather_55 : decode c_C_gather 55 = .ok (.iload_n 2, 1) := by decide +kernel
theorem d_C_gather_56 : decode c_C_gather 56 = .ok (.iconst 1, 1) := by decide +kernel
theorem d_C_gather_57 : decode c_C_gather 57 = .ok (.iadd, 1) := by decide +kernel
theorem d_C_gather_58 : decode c_C_gather 58 = .ok (.aload_n 0, 1) := by decide +kernel
theorem d_C_gather_59 : decode c_C_gather 59 = .ok (.getfield 40, 3) := by decide +kernel
theorem d_C_gather_62 : decode c_C_gather 62 = .ok (.iastore, 1) := by decide +kernel
theorem d_C_gather_63 : decode c_C_gather 63 = .ok (.aload_n 0, 1) := by decide +kernel
theorem d_C_gather_64 : decode c_C_gather 64 = .ok (.getfield 33, 3) := by decide +kernel
theorem d_C_gather_67 : decode c_C_gather 67 = .ok (.iload_n 2, 1) := by decide +kernel
theorem d_C_gather_68 : decode c_C_gather 68 = .ok (.aload_n 0, 1) := by decide +kernel
theorem d_C_gather_69 : decode c_C_gather 69 = .ok (.iload_n 2, 1) := by decide +kernel
theorem d_C_gather_70 : decode c_C_gather 70 = .ok (.invokevirtual 56, 3) := by decide +kernel
theorem d_C_gather_73 : decode c_C_gather 73 = .ok (.iastore, 1) := by decide +kernel
theorem d_C_gather_74 : decode c_C_gather 74 = .ok (.iinc 2 1, 3) := by decide +kernel
theorem d_C_gather_77 : decode c_C_gather 77 = .ok (.goto (-57), 3) := by decide +kernel
theorem d_C_gather_80 : decode c_C_gather 80 = .ok (.aload_n 0, 1) := by decide +kernel
theorem d_C_gather_81 : decode c_C_gather 81 = .ok (.iconst 1, 1) := by decide +kernel
theorem d_C_gather_82 : decode c_C_gather 82 = .ok (.putfield 36, 3) := by decide +kernel
theorem d_C_gather_85 : decode c_C_gather 85 = .ok (.return_, 1) := by decide +kernel
theorem d_C_gatherFrom_0 : decode c_C_gatherFrom 0 = .ok (.aload_n 0, 1) := by decide +kernel
theorem d_C_gatherFrom_1 : decode c_C_gatherFrom 1 = .ok (.getfield 27, 3) := by decide +kernel
theorem d_C_gatherFrom_4 : decode c_C_gatherFrom 4 = .ok (.iconst (-1), 1) := by decide +kernel
theorem d_C_gatherFrom_5 : decode c_C_gatherFrom 5 = .ok (.invokestatic 60, 3) := by decide +kernel
theorem d_C_gatherFrom_8 : decode c_C_gatherFrom 8 = .ok (.iconst 0, 1) := by decide +kernel
theorem d_C_gatherFrom_9 : decode c_C_gatherFrom 9 = .ok (.istore_n 3, 1) := by decide +kernel
theorem d_C_gatherFrom_10 : decode c_C_gatherFrom 10 = .ok (.iload_n 3, 1) := by decide +kernel
theorem d_C_gatherFrom_11 : decode c_C_gatherFrom 11 = .ok (.aload_n 1, 1) := by decide +kernel
theorem d_C_gatherFrom_12 : decode c_C_gatherFrom 12 = .ok (.getfield 66, 3) := by decide +kernel
theorem d_C_gatherFrom_15 : decode c_C_gatherFrom 15 = .ok (.if_icmp .ge 37, 3) := by decide +kernel
theorem d_C_gatherFrom_18 : decode c_C_gatherFrom 18 = .ok (.aload_n 1, 1) := by decide +kernel
theorem d_C_gatherFrom_19 : decode c_C_gatherFrom 19 = .ok (.getfield 69, 3) := by decide +kernel
theorem d_C_gatherFrom_22 : decode c_C_gatherFrom 22 = .ok (.iload_n 3, 1) := by decide +kernel
theorem d_C_gatherFrom_23 : decode c_C_gatherFrom 23 = .ok (.iaload, 1) := by decide +kernel
theorem d_C_gatherFrom_24 : decode c_C_gatherFrom 24 = .ok (.iload_n 2, 1) := by decide +kernel
theorem d_C_gatherFrom_25 : decode c_C_gatherFrom 25 = .ok (.if_icmp .ne 21, 3) := by decide +kernel
theorem d_C_gatherFrom_28 : decode c_C_gatherFrom 28 = .ok (.aload_n 0, 1) := by decide +kernel
theorem d_C_gatherFrom_29 : decode c_C_gatherFrom 29 = .ok (.aload_n 1, 1) := by decide +kernel
theorem d_C_gatherFrom_30 : decode c_C_gatherFrom 30 = .ok (.getfield 72, 3) := by decide +kernel
theorem d_C_gatherFrom_33 : decode c_C_gatherFrom 33 = .ok (.iload_n 3, 1) := by decide +kernel
theorem d_C_gatherFrom_34 : decode c_C_gatherFrom 34 = .ok (.iaload, 1) := by decide +kernel
theorem d_C_gatherFrom_35 : decode c_C_gatherFrom 35 = .ok (.aload_n 1, 1) := by decide +kernel
theorem d_C_gatherFrom_36 : decode c_C_gatherFrom 36 = .ok (.getfield 75, 3) := by decide +kernel
theorem d_C_gatherFrom_39 : decode c_C_gatherFrom 39 = .ok (.iload_n 3, 1) := by decide +kernel
theorem d_C_gatherFrom_40 : decode c_C_gatherFrom 40 = .ok (.iaload, 1) := by decide +kernel
theorem d_C_gatherFrom_41 : decode c_C_gatherFrom 41 = .ok (.iconst (-1), 1) := by decide +kernel
theorem d_C_gatherFrom_42 : decode c_C_gatherFrom 42 = .ok (.iload_n 3, 1) := by decide +kernel
theorem d_C_gatherFrom_43 : decode c_C_gatherFrom 43 = .ok (.invokevirtual 78, 3) := by decide +kernel
theorem d_C_gatherFrom_46 : decode c_C_gatherFrom 46 = .ok (.iinc 3 1, 3) := by decide +kernel
theorem d_C_gatherFrom_49 : decode c_C_gatherFrom 49 = .ok (.goto (-39), 3) := by decide +kernel
theorem d_C_gatherFrom_52 : decode c_C_gatherFrom 52 = .ok (.aload_n 0, 1) := by decide +kernel
theorem d_C_gatherFrom_53 : decode c_C_gatherFrom 53 = .ok (.getfield 30, 3) := by decide +kernel
theorem d_C_gatherFrom_56 : decode c_C_gatherFrom 56 = .ok (.iload_n 2, 1) := by decide +kernel
theorem d_C_gatherFrom_57 : decode c_C_gatherFrom 57 = .ok (.iaload, 1) := by decide +kernel
theorem d_C_gatherFrom_58 : decode c_C_gatherFrom 58 = .ok (.istore_n 3, 1) := by decide +kernel
theorem d_C_gatherFrom_59 : decode c_C_gatherFrom 59 = .ok (.iload_n 3, 1) := by decide +kernel
theorem d_C_gatherFrom_60 : decode c_C_gatherFrom 60 = .ok (.sipush 800, 3) := by decide +kernel
theorem d_C_gatherFrom_63 : decode c_C_gatherFrom 63 = .ok (.if_icmp .ge 88, 3) := by decide +kernel
theorem d_C_gatherFrom_66 : decode c_C_gatherFrom 66 = .ok (.iload_n 3, 1) := by decide +kernel
theorem d_C_gatherFrom_67 : decode c_C_gatherFrom 67 = .ok (.aload_n 0, 1) := by decide +kernel
theorem d_C_gatherFrom_68 : decode c_C_gatherFrom 68 = .ok (.getfield 40, 3) := by decide +kernel
theorem d_C_gatherFrom_71 : decode c_C_gatherFrom 71 = .ok (.if_icmp .ge 80, 3) := by decide +kernel
theorem d_C_gatherFrom_74 : decode c_C_gatherFrom 74 = .ok (.aload_n 0, 1) := by decide +kernel
theorem d_C_gatherFrom_75 : decode c_C_gatherFrom 75 = .ok (.getfield 44, 3) := by decide +kernel
theorem d_C_gatherFrom_78 : decode c_C_gatherFrom 78 = .ok (.ifCond .ne 73, 3) := by decide +kernel
theorem d_C_gatherFrom_81 : decode c_C_gatherFrom 81 = .ok (.iconst 0, 1) := by decide +kernel
theorem d_C_gatherFrom_82 : decode c_C_gatherFrom 82 = .ok (.istore 4, 2) := by decide +kernel
theorem d_C_gatherFrom_84 : decode c_C_gatherFrom 84 = .ok (.iload 4, 2) := by decide +kernel
theorem d_C_gatherFrom_86 : decode c_C_gatherFrom 86 = .ok (.aload_n 1, 1) := by decide +kernel
theorem d_C_gatherFrom_87 : decode c_C_gatherFrom 87 = .ok (.getfield 66, 3) := by decide +kernel
theorem d_C_gatherFrom_90 : decode c_C_gatherFrom 90 = .ok (.if_icmp .ge 55, 3) := by decide +kernel
theorem d_C_gatherFrom_93 : decode c_C_gatherFrom 93 = .ok (.aload_n 1, 1) := by decide +kernel
theorem d_C_gatherFrom_94 : decode c_C_gatherFrom 94 = .ok (.getfield 69, 3) := by decide +kernel
theorem d_C_gatherFrom_97 : decode c_C_gatherFrom 97 = .ok (.iload 4, 2) := by decide +kernel
theorem d_C_gatherFrom_99 : decode c_C_gatherFrom 99 = .ok (.iaload, 1) := by decide +kernel
theorem d_C_gatherFrom_100 : decode c_C_gatherFrom 100 = .ok (.aload_n 0, 1) := by decide +kernel
theorem d_C_gatherFrom_101 : decode c_C_gatherFrom 101 = .ok (.getfield 15, 3) := by decide +kernel
theorem d_C_gatherFrom_104 : decode c_C_gatherFrom 104 = .ok (.iload_n 3, 1) := by decide +kernel
theorem d_C_gatherFrom_105 : decode c_C_gatherFrom 105 = .ok (.iaload, 1) := by decide +kernel
theorem d_C_gatherFrom_106 : decode c_C_gatherFrom 106 = .ok (.if_icmp .ne 33, 3) := by decide +kernel
theorem d_C_gatherFrom_109 : decode c_C_gatherFrom 109 = .ok (.aload_n 0, 1) := by decide +kernel
theorem d_C_gatherFrom_110 : decode c_C_gatherFrom 110 = .ok (.aload_n 0, 1) := by decide +kernel
theorem d_C_gatherFrom_111 : decode c_C_gatherFrom 111 = .ok (.getfield 9, 3) := by decide +kernel
theorem d_C_gatherFrom_114 : decode c_C_gatherFrom 114 = .ok (.iload_n 3, 1) := by decide +kernel
theorem d_C_gatherFrom_115 : decode c_C_gatherFrom 115 = .ok (.iaload, 1) := by decide +kernel
theorem d_C_gatherFrom_116 : decode c_C_gatherFrom 116 = .ok (.aload_n 1, 1) := by decide +kernel
theorem d_C_gatherFrom_117 : decode c_C_gatherFrom 117 = .ok (.getfield 72, 3) := by decide +kernel
theorem d_C_gatherFrom_120 : decode c_C_gatherFrom 120 = .ok (.iload 4, 2) := by decide +kernel
theorem d_C_gatherFrom_122 : decode c_C_gatherFrom 122 = .ok (.iaload, 1) := by decide +kernel
theorem d_C_gatherFrom_123 : decode c_C_gatherFrom 123 = .ok (.invokestatic 82, 3) := by decide +kernel
theorem d_C_gatherFrom_126 : decode c_C_gatherFrom 126 = .ok (.aload_n 1, 1) := by decide +kernel
theorem d_C_gatherFrom_127 : decode c_C_gatherFrom 127 = .ok (.getfield 75, 3) := by decide +kernel
theorem d_C_gatherFrom_130 : decode c_C_gatherFrom 130 = .ok (.iload 4, 2) := by decide +kernel
theorem d_C_gatherFrom_132 : decode c_C_gatherFrom 132 = .ok (.iaload, 1) := by decide +kernel
theorem d_C_gatherFrom_133 : decode c_C_gatherFrom 133 = .ok (.iload_n 3, 1) := by decide +kernel
theorem d_C_gatherFrom_134 : decode c_C_gatherFrom 134 = .ok (.iload 4, 2) := by decide +kernel
theorem d_C_gatherFrom_136 : decode c_C_gatherFrom 136 = .ok (.invokevirtual 78, 3) := by decide +kernel
theorem d_C_gatherFrom_139 : decode c_C_gatherFrom 139 = .ok (.iinc 4 1, 3) := by decide +kernel
theorem d_C_gatherFrom_142 : decode c_C_gatherFrom 142 = .ok (.goto (-58), 3) := by decide +kernel
theorem d_C_gatherFrom_145 : decode c_C_gatherFrom 145 = .ok (.iinc 3 1, 3) := by decide +kernel
theorem d_C_gatherFrom_148 : decode c_C_gatherFrom 148 = .ok (.goto (-89), 3) := by decide +kernel
theorem d_C_gatherFrom_151 : decode c_C_gatherFrom 151 = .ok (.return_, 1) := by decide +kernel
theorem d_C_keep_0 : decode c_C_keep 0 = .ok (.iload_n 1, 1) := by decide +kernel
theorem d_C_keep_1 : decode c_C_keep 1 = .ok (.iload_n 2, 1) := by decide +kernel
theorem d_C_keep_2 : decode c_C_keep 2 = .ok (.iadd, 1) := by decide +kernel
theorem d_C_keep_3 : decode c_C_keep 3 = .ok (.ldc 88, 2) := by decide +kernel
theorem d_C_keep_5 : decode c_C_keep 5 = .ok (.imul, 1) := by decide +kernel
theorem d_C_keep_6 : decode c_C_keep 6 = .ok (.bipush 24, 2) := by decide +kernel
theorem d_C_keep_8 : decode c_C_keep 8 = .ok (.iushr, 1) := by decide +kernel
theorem d_C_keep_9 : decode c_C_keep 9 = .ok (.istore 5, 2) := by decide +kernel
theorem d_C_keep_11 : decode c_C_keep 11 = .ok (.aload_n 0, 1) := by decide +kernel
theorem d_C_keep_12 : decode c_C_keep 12 = .ok (.iload 5, 2) := by decide +kernel
theorem d_C_keep_14 : decode c_C_keep 14 = .ok (.iload_n 1, 1) := by decide +kernel
theorem d_C_keep_15 : decode c_C_keep 15 = .ok (.iload_n 2, 1) := by decide +kernel
theorem d_C_keep_16 : decode c_C_keep 16 = .ok (.invokevirtual 89, 3) := by decide +kernel
theorem d_C_keep_19 : decode c_C_keep 19 = .ok (.ifCond .eq 4, 3) := by decide +kernel
theorem d_C_keep_22 : decode c_C_keep 22 = .ok (.return_, 1) := by decide +kernel
theorem d_C_keep_23 : decode c_C_keep 23 = .ok (.aload_n 0, 1) := by decide +kernel
theorem d_C_keep_24 : decode c_C_keep 24 = .ok (.getfield 40, 3) := by decide +kernel
theorem d_C_keep_27 : decode c_C_keep 27 = .ok (.sipush 800, 3) := by decide +kernel
theorem d_C_keep_30 : decode c_C_keep 30 = .ok (.if_icmp .lt 9, 3) := by decide +kernel
theorem d_C_keep_33 : decode c_C_keep 33 = .ok (.aload_n 0, 1) := by decide +kernel
theorem d_C_keep_34 : decode c_C_keep 34 = .ok (.iconst 1, 1) := by decide +kernel
theorem d_C_keep_35 : decode c_C_keep 35 = .ok (.putfield 44, 3) := by decide +kernel
theorem d_C_keep_38 : decode c_C_keep 38 = .ok (.return_, 1) := by decide +kernel
theorem d_C_keep_39 : decode c_C_keep 39 = .ok (.aload_n 0, 1) := by decide +kernel
theorem d_C_keep_40 : decode c_C_keep 40 = .ok (.getfield 9, 3) := by decide +kernel
theorem d_C_keep_43 : decode c_C_keep 43 = .ok (.aload_n 0, 1) := by decide +kernel
theorem d_C_keep_44 : decode c_C_keep 44 = .ok (.getfield 40, 3) := by decide +kernel
theorem d_C_keep_47 : decode c_C_keep 47 = .ok (.iload_n 1, 1) := by decide +kernel
theorem d_C_keep_48 : decode c_C_keep 48 = .ok (.iastore, 1) := by decide +kernel
theorem d_C_keep_49 : decode c_C_keep 49 = .ok (.aload_n 0, 1) := by decide +kernel
theorem d_C_keep_50 : decode c_C_keep 50 = .ok (.getfield 15, 3) := by decide +kernel
theorem d_C_keep_53 : decode c_C_keep 53 = .ok (.aload_n 0, 1) := by decide +kernel
theorem d_C_keep_54 : decode c_C_keep 54 = .ok (.getfield 40, 3) := by decide +kernel
theorem d_C_keep_57 : decode c_C_keep 57 = .ok (.iload_n 2, 1) := by decide +kernel
theorem d_C_keep_58 : decode c_C_keep 58 = .ok (.iastore, 1) := by decide +kernel
theorem d_C_keep_59 : decode c_C_keep 59 = .ok (.aload_n 0, 1) := by decide +kernel
theorem d_C_keep_60 : decode c_C_keep 60 = .ok (.getfield 18, 3) := by decide +kernel
theorem d_C_keep_63 : decode c_C_keep 63 = .ok (.aload_n 0, 1) := by decide +kernel
theorem d_C_keep_64 : decode c_C_keep 64 = .ok (.getfield 40, 3) := by decide +kernel
theorem d_C_keep_67 : decode c_C_keep 67 = .ok (.iload_n 3, 1) := by decide +kernel
theorem d_C_keep_68 : decode c_C_keep 68 = .ok (.iastore, 1) := by decide +kernel
theorem d_C_keep_69 : decode c_C_keep 69 = .ok (.aload_n 0, 1) := by decide +kernel
theorem d_C_keep_70 : decode c_C_keep 70 = .ok (.getfield 21, 3) := by decide +kernel
theorem d_C_keep_73 : decode c_C_keep 73 = .ok (.aload_n 0, 1) := by decide +kernel
theorem d_C_keep_74 : decode c_C_keep 74 = .ok (.getfield 40, 3) := by decide +kernel
theorem d_C_keep_77 : decode c_C_keep 77 = .ok (.iload 4, 2) := by decide +kernel
theorem d_C_keep_79 : decode c_C_keep 79 = .ok (.iastore, 1) := by decide +kernel
theorem d_C_keep_80 : decode c_C_keep 80 = .ok (.aload_n 0, 1) := by decide +kernel
theorem d_C_keep_81 : decode c_C_keep 81 = .ok (.getfield 24, 3) := by decide +kernel
theorem d_C_keep_84 : decode c_C_keep 84 = .ok (.aload_n 0, 1) := by decide +kernel
theorem d_C_keep_85 : decode c_C_keep 85 = .ok (.getfield 40, 3) := by decide +kernel
theorem d_C_keep_88 : decode c_C_keep 88 = .ok (.aload_n 0, 1) := by decide +kernel
theorem d_C_keep_89 : decode c_C_keep 89 = .ok (.getfield 27, 3) := by decide +kernel
theorem d_C_keep_92 : decode c_C_keep 92 = .ok (.iload 5, 2) := by decide +kernel
theorem d_C_keep_94 : decode c_C_keep 94 = .ok (.iaload, 1) := by decide +kernel
theorem d_C_keep_95 : decode c_C_keep 95 = .ok (.iastore, 1) := by decide +kernel
theorem d_C_keep_96 : decode c_C_keep 96 = .ok (.aload_n 0, 1) := by decide +kernel
theorem d_C_keep_97 : decode c_C_keep 97 = .ok (.getfield 27, 3) := by decide +kernel
theorem d_C_keep_100 : decode c_C_keep 100 = .ok (.iload 5, 2) := by decide +kernel
theorem d_C_keep_102 : decode c_C_keep 102 = .ok (.aload_n 0, 1) := by decide +kernel
theorem d_C_keep_103 : decode c_C_keep 103 = .ok (.getfield 40, 3) := by decide +kernel
theorem d_C_keep_106 : decode c_C_keep 106 = .ok (.iastore, 1) := by decide +kernel
theorem d_C_keep_107 : decode c_C_keep 107 = .ok (.aload_n 0, 1) := by decide +kernel
theorem d_C_keep_108 : decode c_C_keep 108 = .ok (.dup, 1) := by decide +kernel
theorem d_C_keep_109 : decode c_C_keep 109 = .ok (.getfield 40, 3) := by decide +kernel
theorem d_C_keep_112 : decode c_C_keep 112 = .ok (.iconst 1, 1) := by decide +kernel
theorem d_C_keep_113 : decode c_C_keep 113 = .ok (.iadd, 1) := by decide +kernel
theorem d_C_keep_114 : decode c_C_keep 114 = .ok (.putfield 40, 3) := by decide +kernel
theorem d_C_keep_117 : decode c_C_keep 117 = .ok (.return_, 1) := by decide +kernel
theorem d_C_isKept_0 : decode c_C_isKept 0 = .ok (.aload_n 0, 1) := by decide +kernel
theorem d_C_isKept_1 : decode c_C_isKept 1 = .ok (.getfield 27, 3) := by decide +kernel
theorem d_C_isKept_4 : decode c_C_isKept 4 = .ok (.iload_n 1, 1) := by decide +kernel
theorem d_C_isKept_5 : decode c_C_isKept 5 = .ok (.iaload, 1) := by decide +kernel
theorem d_C_isKept_6 : decode c_C_isKept 6 = .ok (.istore 4, 2) := by decide +kernel
theorem d_C_isKept_8 : decode c_C_isKept 8 = .ok (.iconst 0, 1) := by decide +kernel
theorem d_C_isKept_9 : decode c_C_isKept 9 = .ok (.istore 5, 2) := by decide +kernel
theorem d_C_isKept_11 : decode c_C_isKept 11 = .ok (.iload 5, 2) := by decide +kernel
theorem d_C_isKept_13 : decode c_C_isKept 13 = .ok (.sipush 800, 3) := by decide +kernel
theorem d_C_isKept_16 : decode c_C_isKept 16 = .ok (.if_icmp .ge 51, 3) := by decide +kernel
theorem d_C_isKept_19 : decode c_C_isKept 19 = .ok (.aload_n 0, 1) := by decide +kernel
theorem d_C_isKept_20 : decode c_C_isKept 20 = .ok (.iload 4, 2) := by decide +kernel
theorem d_C_isKept_22 : decode c_C_isKept 22 = .ok (.invokevirtual 93, 3) := by decide +kernel
theorem d_C_isKept_25 : decode c_C_isKept 25 = .ok (.ifCond .eq 42, 3) := by decide +kernel
theorem d_C_isKept_28 : decode c_C_isKept 28 = .ok (.aload_n 0, 1) := by decide +kernel
theorem d_C_isKept_29 : decode c_C_isKept 29 = .ok (.getfield 9, 3) := by decide +kernel
theorem d_C_isKept_32 : decode c_C_isKept 32 = .ok (.iload 4, 2) := by decide +kernel
theorem d_C_isKept_34 : decode c_C_isKept 34 = .ok (.iaload, 1) := by decide +kernel
theorem d_C_isKept_35 : decode c_C_isKept 35 = .ok (.iload_n 2, 1) := by decide +kernel
theorem d_C_isKept_36 : decode c_C_isKept 36 = .ok (.if_icmp .ne 16, 3) := by decide +kernel
theorem d_C_isKept_39 : decode c_C_isKept 39 = .ok (.aload_n 0, 1) := by decide +kernel
theorem d_C_isKept_40 : decode c_C_isKept 40 = .ok (.getfield 15, 3) := by decide +kernel
theorem d_C_isKept_43 : decode c_C_isKept 43 = .ok (.iload 4, 2) := by decide +kernel
theorem d_C_isKept_45 : decode c_C_isKept 45 = .ok (.iaload, 1) := by decide +kernel
theorem d_C_isKept_46 : decode c_C_isKept 46 = .ok (.iload_n 3, 1) := by decide +kernel
theorem d_C_isKept_47 : decode c_C_isKept 47 = .ok (.if_icmp .ne 5, 3) := by decide +kernel
theorem d_C_isKept_50 : decode c_C_isKept 50 = .ok (.iconst 1, 1) := by decide +kernel
theorem d_C_isKept_51 : decode c_C_isKept 51 = .ok (.ireturn, 1) := by decide +kernel
theorem d_C_isKept_52 : decode c_C_isKept 52 = .ok (.aload_n 0, 1) := by decide +kernel
theorem d_C_isKept_53 : decode c_C_isKept 53 = .ok (.getfield 24, 3) := by decide +kernel
theorem d_C_isKept_56 : decode c_C_isKept 56 = .ok (.iload 4, 2) := by decide +kernel
theorem d_C_isKept_58 : decode c_C_isKept 58 = .ok (.iaload, 1) := by decide +kernel
theorem d_C_isKept_59 : decode c_C_isKept 59 = .ok (.istore 4, 2) := by decide +kernel
theorem d_C_isKept_61 : decode c_C_isKept 61 = .ok (.iinc 5 1, 3) := by decide +kernel
theorem d_C_isKept_64 : decode c_C_isKept 64 = .ok (.goto (-53), 3) := by decide +kernel
theorem d_C_isKept_67 : decode c_C_isKept 67 = .ok (.iconst 0, 1) := by decide +kernel
theorem d_C_isKept_68 : decode c_C_isKept 68 = .ok (.ireturn, 1) := by decide +kernel
theorem d_C_hasRow_0 : decode c_C_hasRow 0 = .ok (.iload_n 1, 1) := by decide +kernel
theorem d_C_hasRow_1 : decode c_C_hasRow 1 = .ok (.ifCond .lt 15, 3) := by decide +kernel
theorem d_C_hasRow_4 : decode c_C_hasRow 4 = .ok (.iload_n 1, 1) := by decide +kernel
theorem d_C_hasRow_5 : decode c_C_hasRow 5 = .ok (.aload_n 0, 1) := by decide +kernel
theorem d_C_hasRow_6 : decode c_C_hasRow 6 = .ok (.getfield 40, 3) := by decide +kernel
theorem d_C_hasRow_9 : decode c_C_hasRow 9 = .ok (.if_icmp .ge 7, 3) := by decide +kernel
theorem d_C_hasRow_12 : decode c_C_hasRow 12 = .ok (.iconst 1, 1) := by decide +kernel
theorem d_C_hasRow_13 : decode c_C_hasRow 13 = .ok (.goto 4, 3) := by decide +kernel
theorem d_C_hasRow_16 : decode c_C_hasRow 16 = .ok (.iconst 0, 1) := by decide +kernel
theorem d_C_hasRow_17 : decode c_C_hasRow 17 = .ok (.ireturn, 1) := by decide +kernel
theorem d_C_firstBad_0 : decode c_C_firstBad 0 = .ok (.aload_n 0, 1) := by decide +kernel
theorem d_C_firstBad_1 : decode c_C_firstBad 1 = .ok (.getfield 30, 3) := by decide +kernel
theorem d_C_firstBad_4 : decode c_C_firstBad 4 = .ok (.iload_n 1, 1) := by decide +kernel
theorem d_C_firstBad_5 : decode c_C_firstBad 5 = .ok (.iaload, 1) := by decide +kernel
theorem d_C_firstBad_6 : decode c_C_firstBad 6 = .ok (.istore_n 2, 1) := by decide +kernel
theorem d_C_firstBad_7 : decode c_C_firstBad 7 = .ok (.iload_n 2, 1) := by decide +kernel
theorem d_C_firstBad_8 : decode c_C_firstBad 8 = .ok (.aload_n 0, 1) := by decide +kernel
theorem d_C_firstBad_9 : decode c_C_firstBad 9 = .ok (.getfield 30, 3) := by decide +kernel
theorem d_C_firstBad_12 : decode c_C_firstBad 12 = .ok (.iload_n 1, 1) := by decide +kernel
theorem d_C_firstBad_13 : decode c_C_firstBad 13 = .ok (.iconst 1, 1) := by decide +kernel
theorem d_C_firstBad_14 : decode c_C_firstBad 14 = .ok (.iadd, 1) := by decide +kernel
theorem d_C_firstBad_15 : decode c_C_firstBad 15 = .ok (.iaload, 1) := by decide +kernel
theorem d_C_firstBad_16 : decode c_C_firstBad 16 = .ok (.if_icmp .ge 33, 3) := by decide +kernel
theorem d_C_firstBad_19 : decode c_C_firstBad 19 = .ok (.aload_n 0, 1) := by decide +kernel
theorem d_C_firstBad_20 : decode c_C_firstBad 20 = .ok (.getfield 15, 3) := by decide +kernel
theorem d_C_firstBad_23 : decode c_C_firstBad 23 = .ok (.iload_n 2, 1) := by decide +kernel
theorem d_C_firstBad_24 : decode c_C_firstBad 24 = .ok (.iaload, 1) := by decide +kernel
theorem d_C_firstBad_25 : decode c_C_firstBad 25 = .ok (.iload_n 1, 1) := by decide +kernel
theorem d_C_firstBad_26 : decode c_C_firstBad 26 = .ok (.if_icmp .ne 17, 3) := by decide +kernel
theorem d_C_firstBad_29 : decode c_C_firstBad 29 = .ok (.aload_n 0, 1) := by decide +kernel
theorem d_C_firstBad_30 : decode c_C_firstBad 30 = .ok (.getfield 9, 3) := by decide +kernel
theorem d_C_firstBad_33 : decode c_C_firstBad 33 = .ok (.iload_n 2, 1) := by decide +kernel
theorem d_C_firstBad_34 : decode c_C_firstBad 34 = .ok (.iaload, 1) := by decide +kernel
theorem d_C_firstBad_35 : decode c_C_firstBad 35 = .ok (.invokestatic 97, 3) := by decide +kernel
theorem d_C_firstBad_38 : decode c_C_firstBad 38 = .ok (.ifCond .eq 5, 3) := by decide +kernel
theorem d_C_firstBad_41 : decode c_C_firstBad 41 = .ok (.iload_n 2, 1) := by decide +kernel
theorem d_C_firstBad_42 : decode c_C_firstBad 42 = .ok (.ireturn, 1) := by decide +kernel
theorem d_C_firstBad_43 : decode c_C_firstBad 43 = .ok (.iinc 2 1, 3) := by decide +kernel
theorem d_C_firstBad_46 : decode c_C_firstBad 46 = .ok (.goto (-39), 3) := by decide +kernel
theorem d_C_firstBad_49 : decode c_C_firstBad 49 = .ok (.iconst (-1), 1) := by decide +kernel
theorem d_C_firstBad_50 : decode c_C_firstBad 50 = .ok (.ireturn, 1) := by decide +kernel
theorem d_G_isBad_0 : decode c_G_isBad 0 = .ok (.iload_n 0, 1) := by decide +kernel
theorem d_G_isBad_1 : decode c_G_isBad 1 = .ok (.ldc 17, 2) := by decide +kernel
theorem d_G_isBad_3 : decode c_G_isBad 3 = .ok (.iand, 1) := by decide +kernel
theorem d_G_isBad_4 : decode c_G_isBad 4 = .ok (.ifCond .ne 16, 3) := by decide +kernel
theorem d_G_isBad_7 : decode c_G_isBad 7 = .ok (.iload_n 0, 1) := by decide +kernel
theorem d_G_isBad_8 : decode c_G_isBad 8 = .ok (.iload_n 0, 1) := by decide +kernel
theorem d_G_isBad_9 : decode c_G_isBad 9 = .ok (.invokestatic 18, 3) := by decide +kernel
theorem d_G_isBad_12 : decode c_G_isBad 12 = .ok (.iload_n 0, 1) := by decide +kernel
theorem d_G_isBad_13 : decode c_G_isBad 13 = .ok (.if_icmp .ne 7, 3) := by decide +kernel
theorem d_G_isBad_16 : decode c_G_isBad 16 = .ok (.iconst 1, 1) := by decide +kernel
theorem d_G_isBad_17 : decode c_G_isBad 17 = .ok (.goto 4, 3) := by decide +kernel
theorem d_G_isBad_20 : decode c_G_isBad 20 = .ok (.iconst 0, 1) := by decide +kernel
theorem d_G_isBad_21 : decode c_G_isBad 21 = .ok (.ireturn, 1) := by decide +kernel
theorem d_C_countGraphs_0 : decode c_C_countGraphs 0 = .ok (.aload_n 0, 1) := by decide +kernel
theorem d_C_countGraphs_1 : decode c_C_countGraphs 1 = .ok (.iload_n 1, 1) := by decide +kernel
theorem d_C_countGraphs_2 : decode c_C_countGraphs 2 = .ok (.iload_n 2, 1) := by decide +kernel
theorem d_C_countGraphs_3 : decode c_C_countGraphs 3 = .ok (.iconst 0, 1) := by decide +kernel
theorem d_C_countGraphs_4 : decode c_C_countGraphs 4 = .ok (.iconst 0, 1) := by decide +kernel
theorem d_C_countGraphs_5 : decode c_C_countGraphs 5 = .ok (.invokevirtual 100, 3) := by decide +kernel
theorem d_C_countGraphs_8 : decode c_C_countGraphs 8 = .ok (.ireturn, 1) := by decide +kernel
theorem d_C_countAlike_0 : decode c_C_countAlike 0 = .ok (.iconst 0, 1) := by decide +kernel
theorem d_C_countAlike_1 : decode c_C_countAlike 1 = .ok (.istore 5, 2) := by decide +kernel
theorem d_C_countAlike_3 : decode c_C_countAlike 3 = .ok (.aload_n 0, 1) := by decide +kernel
theorem d_C_countAlike_4 : decode c_C_countAlike 4 = .ok (.getfield 30, 3) := by decide +kernel
theorem d_C_countAlike_7 : decode c_C_countAlike 7 = .ok (.iload_n 1, 1) := by decide +kernel
theorem d_C_countAlike_8 : decode c_C_countAlike 8 = .ok (.iaload, 1) := by decide +kernel
theorem d_C_countAlike_9 : decode c_C_countAlike 9 = .ok (.istore 6, 2) := by decide +kernel
theorem d_C_countAlike_11 : decode c_C_countAlike 11 = .ok (.iload 6, 2) := by decide +kernel
theorem d_C_countAlike_13 : decode c_C_countAlike 13 = .ok (.aload_n 0, 1) := by decide +kernel
theorem d_C_countAlike_14 : decode c_C_countAlike 14 = .ok (.getfield 30, 3) := by decide +kernel
theorem d_C_countAlike_17 : decode c_C_countAlike 17 = .ok (.iload_n 1, 1) := by decide +kernel
theorem d_C_countAlike_18 : decode c_C_countAlike 18 = .ok (.iconst 1, 1) := by decide +kernel
theorem d_C_countAlike_19 : decode c_C_countAlike 19 = .ok (.iadd, 1) := by decide +kernel
theorem d_C_countAlike_20 : decode c_C_countAlike 20 = .ok (.iaload, 1) := by decide +kernel
theorem d_C_countAlike_21 : decode c_C_countAlike 21 = .ok (.if_icmp .ge 37, 3) := by decide +kernel
theorem d_C_countAlike_24 : decode c_C_countAlike 24 = .ok (.aload_n 0, 1) := by decide +kernel
theorem d_C_countAlike_25 : decode c_C_countAlike 25 = .ok (.getfield 15, 3) := by decide +kernel
theorem d_C_countAlike_28 : decode c_C_countAlike 28 = .ok (.iload 6, 2) := by decide +kernel
theorem d_C_countAlike_30 : decode c_C_countAlike 30 = .ok (.iaload, 1) := by decide +kernel
theorem d_C_countAlike_31 : decode c_C_countAlike 31 = .ok (.iload_n 2, 1) := by decide +kernel
theorem d_C_countAlike_32 : decode c_C_countAlike 32 = .ok (.if_icmp .ne 20, 3) := by decide +kernel
theorem d_C_countAlike_35 : decode c_C_countAlike 35 = .ok (.aload_n 0, 1) := by decide +kernel
theorem d_C_countAlike_36 : decode c_C_countAlike 36 = .ok (.getfield 9, 3) := by decide +kernel
theorem d_C_countAlike_39 : decode c_C_countAlike 39 = .ok (.iload 6, 2) := by decide +kernel
theorem d_C_countAlike_41 : decode c_C_countAlike 41 = .ok (.iaload, 1) := by decide +kernel
theorem d_C_countAlike_42 : decode c_C_countAlike 42 = .ok (.iload_n 3, 1) := by decide +kernel
theorem d_C_countAlike_43 : decode c_C_countAlike 43 = .ok (.iand, 1) := by decide +kernel
theorem d_C_countAlike_44 : decode c_C_countAlike 44 = .ok (.iload 4, 2) := by decide +kernel
theorem d_C_countAlike_46 : decode c_C_countAlike 46 = .ok (.if_icmp .ne 6, 3) := by decide +kernel
theorem d_C_countAlike_49 : decode c_C_countAlike 49 = .ok (.iinc 5 1, 3) := by decide +kernel
theorem d_C_countAlike_52 : decode c_C_countAlike 52 = .ok (.iinc 6 1, 3) := by decide +kernel
theorem d_C_countAlike_55 : decode c_C_countAlike 55 = .ok (.goto (-44), 3) := by decide +kernel
theorem d_C_countAlike_58 : decode c_C_countAlike 58 = .ok (.iload 5, 2) := by decide +kernel
theorem d_C_countAlike_60 : decode c_C_countAlike 60 = .ok (.ireturn, 1) := by decide +kernel
theorem d_X_graph_0 : decode c_X_graph 0 = .ok (.aload_n 0, 1) := by decide +kernel
theorem d_X_graph_1 : decode c_X_graph 1 = .ok (.getfield 12, 3) := by decide +kernel
theorem d_X_graph_4 : decode c_X_graph 4 = .ok (.iload_n 1, 1) := by decide +kernel
theorem d_X_graph_5 : decode c_X_graph 5 = .ok (.invokevirtual 53, 3) := by decide +kernel
theorem d_X_graph_8 : decode c_X_graph 8 = .ok (.ifCond .eq 14, 3) := by decide +kernel
theorem d_X_graph_11 : decode c_X_graph 11 = .ok (.aload_n 0, 1) := by decide +kernel
theorem d_X_graph_12 : decode c_X_graph 12 = .ok (.getfield 12, 3) := by decide +kernel
theorem d_X_graph_15 : decode c_X_graph 15 = .ok (.iload_n 2, 1) := by decide +kernel
theorem d_X_graph_16 : decode c_X_graph 16 = .ok (.invokevirtual 53, 3) := by decide +kernel
theorem d_X_graph_19 : decode c_X_graph 19 = .ok (.ifCond .ne 13, 3) := by decide +kernel
theorem d_X_graph_22 : decode c_X_graph 22 = .ok (.new 57, 3) := by decide +kernel
theorem d_X_graph_25 : decode c_X_graph 25 = .ok (.dup, 1) := by decide +kernel
theorem d_X_graph_26 : decode c_X_graph 26 = .ok (.ldc 59, 2) := by decide +kernel
theorem d_X_graph_28 : decode c_X_graph 28 = .ok (.invokespecial 61, 3) := by decide +kernel
theorem d_X_graph_31 : decode c_X_graph 31 = .ok (.athrow, 1) := by decide +kernel
theorem d_X_graph_32 : decode c_X_graph 32 = .ok (.aload_n 0, 1) := by decide +kernel
theorem d_X_graph_33 : decode c_X_graph 33 = .ok (.invokevirtual 84, 3) := by decide +kernel
theorem d_X_graph_36 : decode c_X_graph 36 = .ok (.iload_n 3, 1) := by decide +kernel
theorem d_X_graph_37 : decode c_X_graph 37 = .ok (.ifCond .lt 16, 3) := by decide +kernel
theorem d_X_graph_40 : decode c_X_graph 40 = .ok (.iload_n 3, 1) := by decide +kernel
theorem d_X_graph_41 : decode c_X_graph 41 = .ok (.aload_n 0, 1) := by decide +kernel
theorem d_X_graph_42 : decode c_X_graph 42 = .ok (.getfield 19, 3) := by decide +kernel
theorem d_X_graph_45 : decode c_X_graph 45 = .ok (.iload_n 1, 1) := by decide +kernel
theorem d_X_graph_46 : decode c_X_graph 46 = .ok (.iload_n 2, 1) := by decide +kernel
theorem d_X_graph_47 : decode c_X_graph 47 = .ok (.invokevirtual 87, 3) := by decide +kernel
theorem d_X_graph_50 : decode c_X_graph 50 = .ok (.if_icmp .lt 13, 3) := by decide +kernel
theorem d_X_graph_53 : decode c_X_graph 53 = .ok (.new 57, 3) := by decide +kernel
theorem d_X_graph_56 : decode c_X_graph 56 = .ok (.dup, 1) := by decide +kernel
theorem d_X_graph_57 : decode c_X_graph 57 = .ok (.ldc 91, 2) := by decide +kernel
theorem d_X_graph_59 : decode c_X_graph 59 = .ok (.invokespecial 61, 3) := by decide +kernel
theorem d_X_graph_62 : decode c_X_graph 62 = .ok (.athrow, 1) := by decide +kernel
theorem d_X_graph_63 : decode c_X_graph 63 = .ok (.aload_n 0, 1) := by decide +kernel
theorem d_X_graph_64 : decode c_X_graph 64 = .ok (.getfield 19, 3) := by decide +kernel
theorem d_X_graph_67 : decode c_X_graph 67 = .ok (.iload_n 1, 1) := by decide +kernel
theorem d_X_graph_68 : decode c_X_graph 68 = .ok (.iload_n 2, 1) := by decide +kernel
theorem d_X_graph_69 : decode c_X_graph 69 = .ok (.iload_n 3, 1) := by decide +kernel
theorem d_X_graph_70 : decode c_X_graph 70 = .ok (.invokevirtual 93, 3) := by decide +kernel
theorem d_X_graph_73 : decode c_X_graph 73 = .ok (.ireturn, 1) := by decide +kernel
theorem d_C_graphInOrder_0 : decode c_C_graphInOrder 0 = .ok (.iload_n 3, 1) := by decide +kernel
theorem d_C_graphInOrder_1 : decode c_C_graphInOrder 1 = .ok (.istore 4, 2) := by decide +kernel
theorem d_C_graphInOrder_3 : decode c_C_graphInOrder 3 = .ok (.iconst 0, 1) := by decide +kernel
theorem d_C_graphInOrder_4 : decode c_C_graphInOrder 4 = .ok (.istore 5, 2) := by decide +kernel
theorem d_C_graphInOrder_6 : decode c_C_graphInOrder 6 = .ok (.iconst 0, 1) := by decide +kernel
theorem d_C_graphInOrder_7 : decode c_C_graphInOrder 7 = .ok (.istore 6, 2) := by decide +kernel
theorem d_C_graphInOrder_9 : decode c_C_graphInOrder 9 = .ok (.bipush 31, 2) := by decide +kernel
theorem d_C_graphInOrder_11 : decode c_C_graphInOrder 11 = .ok (.istore 7, 2) := by decide +kernel
theorem d_C_graphInOrder_13 : decode c_C_graphInOrder 13 = .ok (.iload 7, 2) := by decide +kernel
theorem d_C_graphInOrder_15 : decode c_C_graphInOrder 15 = .ok (.ifCond .lt 53, 3) := by decide +kernel
theorem d_C_graphInOrder_18 : decode c_C_graphInOrder 18 = .ok (.iload 5, 2) := by decide +kernel
theorem d_C_graphInOrder_20 : decode c_C_graphInOrder 20 = .ok (.iconst 1, 1) := by decide +kernel
theorem d_C_graphInOrder_21 : decode c_C_graphInOrder 21 = .ok (.iload 7, 2) := by decide +kernel
theorem d_C_graphInOrder_23 : decode c_C_graphInOrder 23 = .ok (.ishl, 1) := by decide +kernel
theorem d_C_graphInOrder_24 : decode c_C_graphInOrder 24 = .ok (.ior, 1) := by decide +kernel
theorem d_C_graphInOrder_25 : decode c_C_graphInOrder 25 = .ok (.istore 5, 2) := by decide +kernel
theorem d_C_graphInOrder_27 : decode c_C_graphInOrder 27 = .ok (.aload_n 0, 1) := by decide +kernel
theorem d_C_graphInOrder_28 : decode c_C_graphInOrder 28 = .ok (.iload_n 1, 1) := by decide +kernel
theorem d_C_graphInOrder_29 : decode c_C_graphInOrder 29 = .ok (.iload_n 2, 1) := by decide +kernel
theorem d_C_graphInOrder_30 : decode c_C_graphInOrder 30 = .ok (.iload 5, 2) := by decide +kernel
theorem d_C_graphInOrder_32 : decode c_C_graphInOrder 32 = .ok (.iload 6, 2) := by decide +kernel
theorem d_C_graphInOrder_34 : decode c_C_graphInOrder 34 = .ok (.invokevirtual 100, 3) := by decide +kernel
theorem d_C_graphInOrder_37 : decode c_C_graphInOrder 37 = .ok (.istore 8, 2) := by decide +kernel
theorem d_C_graphInOrder_39 : decode c_C_graphInOrder 39 = .ok (.iload 4, 2) := by decide +kernel
theorem d_C_graphInOrder_41 : decode c_C_graphInOrder 41 = .ok (.iload 8, 2) := by decide +kernel
theorem d_C_graphInOrder_43 : decode c_C_graphInOrder 43 = .ok (.if_icmp .lt 19, 3) := by decide +kernel
theorem d_C_graphInOrder_46 : decode c_C_graphInOrder 46 = .ok (.iload 4, 2) := by decide +kernel
theorem d_C_graphInOrder_48 : decode c_C_graphInOrder 48 = .ok (.iload 8, 2) := by decide +kernel
theorem d_C_graphInOrder_50 : decode c_C_graphInOrder 50 = .ok (.isub, 1) := by decide +kernel
theorem d_C_graphInOrder_51 : decode c_C_graphInOrder 51 = .ok (.istore 4, 2) := by decide +kernel
theorem d_C_graphInOrder_53 : decode c_C_graphInOrder 53 = .ok (.iload 6, 2) := by decide +kernel
theorem d_C_graphInOrder_55 : decode c_C_graphInOrder 55 = .ok (.iconst 1, 1) := by decide +kernel
theorem d_C_graphInOrder_56 : decode c_C_graphInOrder 56 = .ok (.iload 7, 2) := by decide +kernel
theorem d_C_graphInOrder_58 : decode c_C_graphInOrder 58 = .ok (.ishl, 1) := by decide +kernel
theorem d_C_graphInOrder_59 : decode c_C_graphInOrder 59 = .ok (.ior, 1) := by decide +kernel
theorem d_C_graphInOrder_60 : decode c_C_graphInOrder 60 = .ok (.istore 6, 2) := by decide +kernel
theorem d_C_graphInOrder_62 : decode c_C_graphInOrder 62 = .ok (.iinc 7 (-1), 3) := by decide +kernel
theorem d_C_graphInOrder_65 : decode c_C_graphInOrder 65 = .ok (.goto (-52), 3) := by decide +kernel
theorem d_C_graphInOrder_68 : decode c_C_graphInOrder 68 = .ok (.iload 6, 2) := by decide +kernel
theorem d_C_graphInOrder_70 : decode c_C_graphInOrder 70 = .ok (.ireturn, 1) := by decide +kernel
theorem d_X_falls_0 : decode c_X_falls 0 = .ok (.aload_n 0, 1) := by decide +kernel
theorem d_X_falls_1 : decode c_X_falls 1 = .ok (.getfield 12, 3) := by decide +kernel
theorem d_X_falls_4 : decode c_X_falls 4 = .ok (.iload_n 1, 1) := by decide +kernel
theorem d_X_falls_5 : decode c_X_falls 5 = .ok (.invokevirtual 53, 3) := by decide +kernel
theorem d_X_falls_8 : decode c_X_falls 8 = .ok (.ifCond .ne 13, 3) := by decide +kernel
theorem d_X_falls_11 : decode c_X_falls 11 = .ok (.new 57, 3) := by decide +kernel
theorem d_X_falls_14 : decode c_X_falls 14 = .ok (.dup, 1) := by decide +kernel
theorem d_X_falls_15 : decode c_X_falls 15 = .ok (.ldc 59, 2) := by decide +kernel
theorem d_X_falls_17 : decode c_X_falls 17 = .ok (.invokespecial 61, 3) := by decide +kernel
theorem d_X_falls_20 : decode c_X_falls 20 = .ok (.athrow, 1) := by decide +kernel
theorem d_X_falls_21 : decode c_X_falls 21 = .ok (.aload_n 0, 1) := by decide +kernel
theorem d_X_falls_22 : decode c_X_falls 22 = .ok (.invokevirtual 84, 3) := by decide +kernel
theorem d_X_falls_25 : decode c_X_falls 25 = .ok (.aload_n 0, 1) := by decide +kernel
theorem d_X_falls_26 : decode c_X_falls 26 = .ok (.getfield 19, 3) := by decide +kernel
theorem d_X_falls_29 : decode c_X_falls 29 = .ok (.getfield 96, 3) := by decide +kernel
theorem d_X_falls_32 : decode c_X_falls 32 = .ok (.iload_n 1, 1) := by decide +kernel
theorem d_X_falls_33 : decode c_X_falls 33 = .ok (.iaload, 1) := by decide +kernel
theorem d_X_falls_34 : decode c_X_falls 34 = .ok (.iconst (-1), 1) := by decide +kernel
theorem d_X_falls_35 : decode c_X_falls 35 = .ok (.if_icmp .ne 7, 3) := by decide +kernel
theorem d_X_falls_38 : decode c_X_falls 38 = .ok (.iconst 1, 1) := by decide +kernel
theorem d_X_falls_39 : decode c_X_falls 39 = .ok (.goto 4, 3) := by decide +kernel
theorem d_X_falls_42 : decode c_X_falls 42 = .ok (.iconst 0, 1) := by decide +kernel
theorem d_X_falls_43 : decode c_X_falls 43 = .ok (.ireturn, 1) := by decide +kernel
theorem d_X_isSafe_0 : decode c_X_isSafe 0 = .ok (.aload_n 0, 1) := by decide +kernel
theorem d_X_isSafe_1 : decode c_X_isSafe 1 = .ok (.getfield 12, 3) := by decide +kernel
theorem d_X_isSafe_4 : decode c_X_isSafe 4 = .ok (.iload_n 1, 1) := by decide +kernel
theorem d_X_isSafe_5 : decode c_X_isSafe 5 = .ok (.invokevirtual 53, 3) := by decide +kernel
theorem d_X_isSafe_8 : decode c_X_isSafe 8 = .ok (.ifCond .ne 13, 3) := by decide +kernel
theorem d_X_isSafe_11 : decode c_X_isSafe 11 = .ok (.new 57, 3) := by decide +kernel
theorem d_X_isSafe_14 : decode c_X_isSafe 14 = .ok (.dup, 1) := by decide +kernel
theorem d_X_isSafe_15 : decode c_X_isSafe 15 = .ok (.ldc 59, 2) := by decide +kernel
theorem d_X_isSafe_17 : decode c_X_isSafe 17 = .ok (.invokespecial 61, 3) := by decide +kernel
theorem d_X_isSafe_20 : decode c_X_isSafe 20 = .ok (.athrow, 1) := by decide +kernel
theorem d_X_isSafe_21 : decode c_X_isSafe 21 = .ok (.aload_n 0, 1) := by decide +kernel
theorem d_X_isSafe_22 : decode c_X_isSafe 22 = .ok (.invokevirtual 84, 3) := by decide +kernel
theorem d_X_isSafe_25 : decode c_X_isSafe 25 = .ok (.aload_n 0, 1) := by decide +kernel
theorem d_X_isSafe_26 : decode c_X_isSafe 26 = .ok (.getfield 12, 3) := by decide +kernel
theorem d_X_isSafe_29 : decode c_X_isSafe 29 = .ok (.iload_n 1, 1) := by decide +kernel
theorem d_X_isSafe_30 : decode c_X_isSafe 30 = .ok (.invokevirtual 99, 3) := by decide +kernel
theorem d_X_isSafe_33 : decode c_X_isSafe 33 = .ok (.iconst 1, 1) := by decide +kernel
theorem d_X_isSafe_34 : decode c_X_isSafe 34 = .ok (.iload_n 1, 1) := by decide +kernel
theorem d_X_isSafe_35 : decode c_X_isSafe 35 = .ok (.ishl, 1) := by decide +kernel
theorem d_X_isSafe_36 : decode c_X_isSafe 36 = .ok (.ior, 1) := by decide +kernel
theorem d_X_isSafe_37 : decode c_X_isSafe 37 = .ok (.istore_n 2, 1) := by decide +kernel
theorem d_X_isSafe_38 : decode c_X_isSafe 38 = .ok (.iconst 0, 1) := by decide +kernel
theorem d_X_isSafe_39 : decode c_X_isSafe 39 = .ok (.istore_n 3, 1) := by decide +kernel
theorem d_X_isSafe_40 : decode c_X_isSafe 40 = .ok (.iload_n 3, 1) := by decide +kernel
theorem d_X_isSafe_41 : decode c_X_isSafe 41 = .ok (.aload_n 0, 1) := by decide +kernel
theorem d_X_isSafe_42 : decode c_X_isSafe 42 = .ok (.getfield 12, 3) := by decide +kernel
theorem d_X_isSafe_45 : decode c_X_isSafe 45 = .ok (.getfield 37, 3) := by decide +kernel
theorem d_X_isSafe_48 : decode c_X_isSafe 48 = .ok (.if_icmp .ge 32, 3) := by decide +kernel
theorem d_X_isSafe_51 : decode c_X_isSafe 51 = .ok (.iload_n 2, 1) := by decide +kernel
theorem d_X_isSafe_52 : decode c_X_isSafe 52 = .ok (.iload_n 3, 1) := by decide +kernel
theorem d_X_isSafe_53 : decode c_X_isSafe 53 = .ok (.iushr, 1) := by decide +kernel
theorem d_X_isSafe_54 : decode c_X_isSafe 54 = .ok (.iconst 1, 1) := by decide +kernel
theorem d_X_isSafe_55 : decode c_X_isSafe 55 = .ok (.iand, 1) := by decide +kernel
theorem d_X_isSafe_56 : decode c_X_isSafe 56 = .ok (.ifCond .eq 18, 3) := by decide +kernel
theorem d_X_isSafe_59 : decode c_X_isSafe 59 = .ok (.aload_n 0, 1) := by decide +kernel
theorem d_X_isSafe_60 : decode c_X_isSafe 60 = .ok (.getfield 19, 3) := by decide +kernel
theorem d_X_isSafe_63 : decode c_X_isSafe 63 = .ok (.getfield 96, 3) := by decide +kernel
theorem d_X_isSafe_66 : decode c_X_isSafe 66 = .ok (.iload_n 3, 1) := by decide +kernel
theorem d_X_isSafe_67 : decode c_X_isSafe 67 = .ok (.iaload, 1) := by decide +kernel
theorem d_X_isSafe_68 : decode c_X_isSafe 68 = .ok (.iconst (-1), 1) := by decide +kernel
theorem d_X_isSafe_69 : decode c_X_isSafe 69 = .ok (.if_icmp .eq 5, 3) := by decide +kernel
theorem d_X_isSafe_72 : decode c_X_isSafe 72 = .ok (.iconst 0, 1) := by decide +kernel
theorem d_X_isSafe_73 : decode c_X_isSafe 73 = .ok (.ireturn, 1) := by decide +kernel
theorem d_X_isSafe_74 : decode c_X_isSafe 74 = .ok (.iinc 3 1, 3) := by decide +kernel
theorem d_X_isSafe_77 : decode c_X_isSafe 77 = .ok (.goto (-37), 3) := by decide +kernel
theorem d_X_isSafe_80 : decode c_X_isSafe 80 = .ok (.iconst 1, 1) := by decide +kernel
theorem d_X_isSafe_81 : decode c_X_isSafe 81 = .ok (.ireturn, 1) := by decide +kernel
theorem d_X_bad_0 : decode c_X_bad 0 = .ok (.aload_n 0, 1) := by decide +kernel
theorem d_X_bad_1 : decode c_X_bad 1 = .ok (.getfield 12, 3) := by decide +kernel
theorem d_X_bad_4 : decode c_X_bad 4 = .ok (.iload_n 1, 1) := by decide +kernel
theorem d_X_bad_5 : decode c_X_bad 5 = .ok (.invokevirtual 53, 3) := by decide +kernel
theorem d_X_bad_8 : decode c_X_bad 8 = .ok (.ifCond .ne 5, 3) := by decide +kernel
theorem d_X_bad_11 : decode c_X_bad 11 = .ok (.iconst (-1), 1) := by decide +kernel
theorem d_X_bad_12 : decode c_X_bad 12 = .ok (.ireturn, 1) := by decide +kernel
theorem d_X_bad_13 : decode c_X_bad 13 = .ok (.aload_n 0, 1) := by decide +kernel
theorem d_X_bad_14 : decode c_X_bad 14 = .ok (.invokevirtual 84, 3) := by decide +kernel
theorem d_X_bad_17 : decode c_X_bad 17 = .ok (.aload_n 0, 1) := by decide +kernel
theorem d_X_bad_18 : decode c_X_bad 18 = .ok (.getfield 19, 3) := by decide +kernel
theorem d_X_bad_21 : decode c_X_bad 21 = .ok (.aload_n 0, 1) := by decide +kernel
theorem d_X_bad_22 : decode c_X_bad 22 = .ok (.getfield 19, 3) := by decide +kernel
theorem d_X_bad_25 : decode c_X_bad 25 = .ok (.getfield 96, 3) := by decide +kernel
theorem d_X_bad_28 : decode c_X_bad 28 = .ok (.iload_n 1, 1) := by decide +kernel
theorem d_X_bad_29 : decode c_X_bad 29 = .ok (.iaload, 1) := by decide +kernel
theorem d_X_bad_30 : decode c_X_bad 30 = .ok (.invokevirtual 102, 3) := by decide +kernel
theorem d_X_bad_33 : decode c_X_bad 33 = .ok (.istore_n 3, 1) := by decide +kernel
theorem d_X_bad_34 : decode c_X_bad 34 = .ok (.iload_n 2, 1) := by decide +kernel
theorem d_X_bad_35 : decode c_X_bad 35 = .ok (.iconst (-1), 1) := by decide +kernel
theorem d_X_bad_36 : decode c_X_bad 36 = .ok (.if_icmp .ne 5, 3) := by decide +kernel
theorem d_X_bad_39 : decode c_X_bad 39 = .ok (.iload_n 3, 1) := by decide +kernel
theorem d_X_bad_40 : decode c_X_bad 40 = .ok (.ireturn, 1) := by decide +kernel
theorem d_X_bad_41 : decode c_X_bad 41 = .ok (.iload_n 2, 1) := by decide +kernel
theorem d_X_bad_42 : decode c_X_bad 42 = .ok (.ifCond .lt 8, 3) := by decide +kernel
theorem d_X_bad_45 : decode c_X_bad 45 = .ok (.iload_n 2, 1) := by decide +kernel
theorem d_X_bad_46 : decode c_X_bad 46 = .ok (.iload_n 3, 1) := by decide +kernel
theorem d_X_bad_47 : decode c_X_bad 47 = .ok (.if_icmp .lt 5, 3) := by decide +kernel
theorem d_X_bad_50 : decode c_X_bad 50 = .ok (.iconst (-1), 1) := by decide +kernel
theorem d_X_bad_51 : decode c_X_bad 51 = .ok (.ireturn, 1) := by decide +kernel
theorem d_X_bad_52 : decode c_X_bad 52 = .ok (.aload_n 0, 1) := by decide +kernel
theorem d_X_bad_53 : decode c_X_bad 53 = .ok (.getfield 19, 3) := by decide +kernel
theorem d_X_bad_56 : decode c_X_bad 56 = .ok (.aload_n 0, 1) := by decide +kernel
theorem d_X_bad_57 : decode c_X_bad 57 = .ok (.getfield 19, 3) := by decide +kernel
theorem d_X_bad_60 : decode c_X_bad 60 = .ok (.getfield 96, 3) := by decide +kernel
theorem d_X_bad_63 : decode c_X_bad 63 = .ok (.iload_n 1, 1) := by decide +kernel
theorem d_X_bad_64 : decode c_X_bad 64 = .ok (.iaload, 1) := by decide +kernel
theorem d_X_bad_65 : decode c_X_bad 65 = .ok (.iload_n 3, 1) := by decide +kernel
theorem d_X_bad_66 : decode c_X_bad 66 = .ok (.iconst 1, 1) := by decide +kernel
theorem d_X_bad_67 : decode c_X_bad 67 = .ok (.isub, 1) := by decide +kernel
theorem d_X_bad_68 : decode c_X_bad 68 = .ok (.iload_n 2, 1) := by decide +kernel
theorem d_X_bad_69 : decode c_X_bad 69 = .ok (.isub, 1) := by decide +kernel
theorem d_X_bad_70 : decode c_X_bad 70 = .ok (.invokevirtual 105, 3) := by decide +kernel
theorem d_X_bad_73 : decode c_X_bad 73 = .ok (.ireturn, 1) := by decide +kernel
theorem d_C_lengthOf_0 : decode c_C_lengthOf 0 = .ok (.iconst 0, 1) := by decide +kernel
theorem d_C_lengthOf_1 : decode c_C_lengthOf 1 = .ok (.istore_n 2, 1) := by decide +kernel
theorem d_C_lengthOf_2 : decode c_C_lengthOf 2 = .ok (.iload_n 1, 1) := by decide +kernel
theorem d_C_lengthOf_3 : decode c_C_lengthOf 3 = .ok (.istore_n 3, 1) := by decide +kernel
theorem d_C_lengthOf_4 : decode c_C_lengthOf 4 = .ok (.iload_n 2, 1) := by decide +kernel
theorem d_C_lengthOf_5 : decode c_C_lengthOf 5 = .ok (.sipush 800, 3) := by decide +kernel
theorem d_C_lengthOf_8 : decode c_C_lengthOf 8 = .ok (.if_icmp .ge 24, 3) := by decide +kernel
theorem d_C_lengthOf_11 : decode c_C_lengthOf 11 = .ok (.aload_n 0, 1) := by decide +kernel
theorem d_C_lengthOf_12 : decode c_C_lengthOf 12 = .ok (.iload_n 3, 1) := by decide +kernel
theorem d_C_lengthOf_13 : decode c_C_lengthOf 13 = .ok (.invokevirtual 93, 3) := by decide +kernel
theorem d_C_lengthOf_16 : decode c_C_lengthOf 16 = .ok (.ifCond .eq 16, 3) := by decide +kernel
theorem d_C_lengthOf_19 : decode c_C_lengthOf 19 = .ok (.aload_n 0, 1) := by decide +kernel
theorem d_C_lengthOf_20 : decode c_C_lengthOf 20 = .ok (.getfield 18, 3) := by decide +kernel
theorem d_C_lengthOf_23 : decode c_C_lengthOf 23 = .ok (.iload_n 3, 1) := by decide +kernel
theorem d_C_lengthOf_24 : decode c_C_lengthOf 24 = .ok (.iaload, 1) := by decide +kernel
theorem d_C_lengthOf_25 : decode c_C_lengthOf 25 = .ok (.istore_n 3, 1) := by decide +kernel
theorem d_C_lengthOf_26 : decode c_C_lengthOf 26 = .ok (.iinc 2 1, 3) := by decide +kernel
theorem d_C_lengthOf_29 : decode c_C_lengthOf 29 = .ok (.goto (-25), 3) := by decide +kernel
theorem d_C_lengthOf_32 : decode c_C_lengthOf 32 = .ok (.iload_n 2, 1) := by decide +kernel
theorem d_C_lengthOf_33 : decode c_C_lengthOf 33 = .ok (.ireturn, 1) := by decide +kernel
theorem d_C_callFromTheEnd_0 : decode c_C_callFromTheEnd 0 = .ok (.iload_n 1, 1) := by decide +kernel
theorem d_C_callFromTheEnd_1 : decode c_C_callFromTheEnd 1 = .ok (.istore_n 3, 1) := by decide +kernel
theorem d_C_callFromTheEnd_2 : decode c_C_callFromTheEnd 2 = .ok (.iconst 0, 1) := by decide +kernel
theorem d_C_callFromTheEnd_3 : decode c_C_callFromTheEnd 3 = .ok (.istore 4, 2) := by decide +kernel
theorem d_C_callFromTheEnd_5 : decode c_C_callFromTheEnd 5 = .ok (.iload 4, 2) := by decide +kernel
theorem d_C_callFromTheEnd_7 : decode c_C_callFromTheEnd 7 = .ok (.iload_n 2, 1) := by decide +kernel
theorem d_C_callFromTheEnd_8 : decode c_C_callFromTheEnd 8 = .ok (.if_icmp .ge 24, 3) := by decide +kernel
theorem d_C_callFromTheEnd_11 : decode c_C_callFromTheEnd 11 = .ok (.aload_n 0, 1) := by decide +kernel
theorem d_C_callFromTheEnd_12 : decode c_C_callFromTheEnd 12 = .ok (.iload_n 3, 1) := by decide +kernel
theorem d_C_callFromTheEnd_13 : decode c_C_callFromTheEnd 13 = .ok (.invokevirtual 93, 3) := by decide +kernel
theorem d_C_callFromTheEnd_16 : decode c_C_callFromTheEnd 16 = .ok (.ifCond .eq 16, 3) := by decide +kernel
theorem d_C_callFromTheEnd_19 : decode c_C_callFromTheEnd 19 = .ok (.aload_n 0, 1) := by decide +kernel
theorem d_C_callFromTheEnd_20 : decode c_C_callFromTheEnd 20 = .ok (.getfield 18, 3) := by decide +kernel
theorem d_C_callFromTheEnd_23 : decode c_C_callFromTheEnd 23 = .ok (.iload_n 3, 1) := by decide +kernel
theorem d_C_callFromTheEnd_24 : decode c_C_callFromTheEnd 24 = .ok (.iaload, 1) := by decide +kernel
theorem d_C_callFromTheEnd_25 : decode c_C_callFromTheEnd 25 = .ok (.istore_n 3, 1) := by decide +kernel
theorem d_C_callFromTheEnd_26 : decode c_C_callFromTheEnd 26 = .ok (.iinc 4 1, 3) := by decide +kernel
theorem d_C_callFromTheEnd_29 : decode c_C_callFromTheEnd 29 = .ok (.goto (-24), 3) := by decide +kernel
theorem d_C_callFromTheEnd_32 : decode c_C_callFromTheEnd 32 = .ok (.aload_n 0, 1) := by decide +kernel
theorem d_C_callFromTheEnd_33 : decode c_C_callFromTheEnd 33 = .ok (.iload_n 3, 1) := by decide +kernel
theorem d_C_callFromTheEnd_34 : decode c_C_callFromTheEnd 34 = .ok (.invokevirtual 93, 3) := by decide +kernel
theorem d_C_callFromTheEnd_37 : decode c_C_callFromTheEnd 37 = .ok (.ifCond .eq 12, 3) := by decide +kernel
theorem d_C_callFromTheEnd_40 : decode c_C_callFromTheEnd 40 = .ok (.aload_n 0, 1) := by decide +kernel
theorem d_C_callFromTheEnd_41 : decode c_C_callFromTheEnd 41 = .ok (.getfield 21, 3) := by decide +kernel
theorem d_C_callFromTheEnd_44 : decode c_C_callFromTheEnd 44 = .ok (.iload_n 3, 1) := by decide +kernel
theorem d_C_callFromTheEnd_45 : decode c_C_callFromTheEnd 45 = .ok (.iaload, 1) := by decide +kernel
theorem d_C_callFromTheEnd_46 : decode c_C_callFromTheEnd 46 = .ok (.goto 4, 3) := by decide +kernel
theorem d_C_callFromTheEnd_49 : decode c_C_callFromTheEnd 49 = .ok (.iconst (-1), 1) := by decide +kernel
theorem d_C_callFromTheEnd_50 : decode c_C_callFromTheEnd 50 = .ok (.ireturn, 1) := by decide +kernel
