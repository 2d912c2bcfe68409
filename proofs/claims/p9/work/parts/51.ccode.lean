theorem d_X_init_0 : decode c_X_init 0 = .ok (.aload_n 0, 1) := by decide +kernel
theorem d_X_init_1 : decode c_X_init 1 = .ok (.invokespecial 3, 3) := by decide +kernel
theorem d_X_init_4 : decode c_X_init 4 = .ok (.aload_n 0, 1) := by decide +kernel
theorem d_X_init_5 : decode c_X_init 5 = .ok (.new 9, 3) := by decide +kernel
theorem d_X_init_8 : decode c_X_init 8 = .ok (.dup, 1) := by decide +kernel
theorem d_X_init_9 : decode c_X_init 9 = .ok (.invokespecial 11, 3) := by decide +kernel
theorem d_X_init_12 : decode c_X_init 12 = .ok (.putfield 12, 3) := by decide +kernel
theorem d_X_init_15 : decode c_X_init 15 = .ok (.aload_n 0, 1) := by decide +kernel
theorem d_X_init_16 : decode c_X_init 16 = .ok (.new 16, 3) := by decide +kernel
theorem d_X_init_19 : decode c_X_init 19 = .ok (.dup, 1) := by decide +kernel
theorem d_X_init_20 : decode c_X_init 20 = .ok (.invokespecial 18, 3) := by decide +kernel
theorem d_X_init_23 : decode c_X_init 23 = .ok (.putfield 19, 3) := by decide +kernel
theorem d_X_init_26 : decode c_X_init 26 = .ok (.aload_n 0, 1) := by decide +kernel
theorem d_X_init_27 : decode c_X_init 27 = .ok (.new 23, 3) := by decide +kernel
theorem d_X_init_30 : decode c_X_init 30 = .ok (.dup, 1) := by decide +kernel
theorem d_X_init_31 : decode c_X_init 31 = .ok (.invokespecial 25, 3) := by decide +kernel
theorem d_X_init_34 : decode c_X_init 34 = .ok (.putfield 26, 3) := by decide +kernel
theorem d_X_init_37 : decode c_X_init 37 = .ok (.return_, 1) := by decide +kernel
theorem d_P_init_0 : decode c_P_init 0 = .ok (.aload_n 0, 1) := by decide +kernel
theorem d_P_init_1 : decode c_P_init 1 = .ok (.invokespecial 3, 3) := by decide +kernel
theorem d_P_init_4 : decode c_P_init 4 = .ok (.aload_n 0, 1) := by decide +kernel
theorem d_P_init_5 : decode c_P_init 5 = .ok (.bipush 10, 2) := by decide +kernel
theorem d_P_init_7 : decode c_P_init 7 = .ok (.newarray .int, 2) := by decide +kernel
theorem d_P_init_9 : decode c_P_init 9 = .ok (.putfield 9, 3) := by decide +kernel
theorem d_P_init_12 : decode c_P_init 12 = .ok (.aload_n 0, 1) := by decide +kernel
theorem d_P_init_13 : decode c_P_init 13 = .ok (.bipush 20, 2) := by decide +kernel
theorem d_P_init_15 : decode c_P_init 15 = .ok (.newarray .int, 2) := by decide +kernel
theorem d_P_init_17 : decode c_P_init 17 = .ok (.putfield 15, 3) := by decide +kernel
theorem d_P_init_20 : decode c_P_init 20 = .ok (.aload_n 0, 1) := by decide +kernel
theorem d_P_init_21 : decode c_P_init 21 = .ok (.bipush 20, 2) := by decide +kernel
theorem d_P_init_23 : decode c_P_init 23 = .ok (.newarray .int, 2) := by decide +kernel
theorem d_P_init_25 : decode c_P_init 25 = .ok (.putfield 18, 3) := by decide +kernel
theorem d_P_init_28 : decode c_P_init 28 = .ok (.aload_n 0, 1) := by decide +kernel
theorem d_P_init_29 : decode c_P_init 29 = .ok (.bipush 20, 2) := by decide +kernel
theorem d_P_init_31 : decode c_P_init 31 = .ok (.newarray .int, 2) := by decide +kernel
theorem d_P_init_33 : decode c_P_init 33 = .ok (.putfield 21, 3) := by decide +kernel
theorem d_P_init_36 : decode c_P_init 36 = .ok (.return_, 1) := by decide +kernel
theorem d_C_init_0 : decode c_C_init 0 = .ok (.aload_n 0, 1) := by decide +kernel
theorem d_C_init_1 : decode c_C_init 1 = .ok (.invokespecial 3, 3) := by decide +kernel
theorem d_C_init_4 : decode c_C_init 4 = .ok (.aload_n 0, 1) := by decide +kernel
theorem d_C_init_5 : decode c_C_init 5 = .ok (.sipush 800, 3) := by decide +kernel
theorem d_C_init_8 : decode c_C_init 8 = .ok (.newarray .int, 2) := by decide +kernel
theorem d_C_init_10 : decode c_C_init 10 = .ok (.putfield 9, 3) := by decide +kernel
theorem d_C_init_13 : decode c_C_init 13 = .ok (.aload_n 0, 1) := by decide +kernel
theorem d_C_init_14 : decode c_C_init 14 = .ok (.sipush 800, 3) := by decide +kernel
theorem d_C_init_17 : decode c_C_init 17 = .ok (.newarray .int, 2) := by decide +kernel
theorem d_C_init_19 : decode c_C_init 19 = .ok (.putfield 15, 3) := by decide +kernel
theorem d_C_init_22 : decode c_C_init 22 = .ok (.aload_n 0, 1) := by decide +kernel
theorem d_C_init_23 : decode c_C_init 23 = .ok (.sipush 800, 3) := by decide +kernel
theorem d_C_init_26 : decode c_C_init 26 = .ok (.newarray .int, 2) := by decide +kernel
theorem d_C_init_28 : decode c_C_init 28 = .ok (.putfield 18, 3) := by decide +kernel
theorem d_C_init_31 : decode c_C_init 31 = .ok (.aload_n 0, 1) := by decide +kernel
theorem d_C_init_32 : decode c_C_init 32 = .ok (.sipush 800, 3) := by decide +kernel
theorem d_C_init_35 : decode c_C_init 35 = .ok (.newarray .int, 2) := by decide +kernel
theorem d_C_init_37 : decode c_C_init 37 = .ok (.putfield 21, 3) := by decide +kernel
theorem d_C_init_40 : decode c_C_init 40 = .ok (.aload_n 0, 1) := by decide +kernel
theorem d_C_init_41 : decode c_C_init 41 = .ok (.sipush 800, 3) := by decide +kernel
theorem d_C_init_44 : decode c_C_init 44 = .ok (.newarray .int, 2) := by decide +kernel
theorem d_C_init_46 : decode c_C_init 46 = .ok (.putfield 24, 3) := by decide +kernel
theorem d_C_init_49 : decode c_C_init 49 = .ok (.aload_n 0, 1) := by decide +kernel
theorem d_C_init_50 : decode c_C_init 50 = .ok (.sipush 256, 3) := by decide +kernel
theorem d_C_init_53 : decode c_C_init 53 = .ok (.newarray .int, 2) := by decide +kernel
theorem d_C_init_55 : decode c_C_init 55 = .ok (.putfield 27, 3) := by decide +kernel
theorem d_C_init_58 : decode c_C_init 58 = .ok (.aload_n 0, 1) := by decide +kernel
theorem d_C_init_59 : decode c_C_init 59 = .ok (.bipush 11, 2) := by decide +kernel
theorem d_C_init_61 : decode c_C_init 61 = .ok (.newarray .int, 2) := by decide +kernel
theorem d_C_init_63 : decode c_C_init 63 = .ok (.putfield 30, 3) := by decide +kernel
theorem d_C_init_66 : decode c_C_init 66 = .ok (.aload_n 0, 1) := by decide +kernel
theorem d_C_init_67 : decode c_C_init 67 = .ok (.bipush 10, 2) := by decide +kernel
theorem d_C_init_69 : decode c_C_init 69 = .ok (.newarray .int, 2) := by decide +kernel
theorem d_C_init_71 : decode c_C_init 71 = .ok (.putfield 33, 3) := by decide +kernel
theorem d_C_init_74 : decode c_C_init 74 = .ok (.return_, 1) := by decide +kernel
theorem d_O_init_0 : decode c_O_init 0 = .ok (.aload_n 0, 1) := by decide +kernel
theorem d_O_init_1 : decode c_O_init 1 = .ok (.invokespecial 3, 3) := by decide +kernel
theorem d_O_init_4 : decode c_O_init 4 = .ok (.aload_n 0, 1) := by decide +kernel
theorem d_O_init_5 : decode c_O_init 5 = .ok (.iconst 4, 1) := by decide +kernel
theorem d_O_init_6 : decode c_O_init 6 = .ok (.newarray .int, 2) := by decide +kernel
theorem d_O_init_8 : decode c_O_init 8 = .ok (.putfield 9, 3) := by decide +kernel
theorem d_O_init_11 : decode c_O_init 11 = .ok (.return_, 1) := by decide +kernel
theorem d_X_undo_0 : decode c_X_undo 0 = .ok (.aload_n 0, 1) := by decide +kernel
theorem d_X_undo_1 : decode c_X_undo 1 = .ok (.getfield 12, 3) := by decide +kernel
theorem d_X_undo_4 : decode c_X_undo 4 = .ok (.getfield 62, 3) := by decide +kernel
theorem d_X_undo_7 : decode c_X_undo 7 = .ok (.ifCond .gt 5, 3) := by decide +kernel
theorem d_X_undo_10 : decode c_X_undo 10 = .ok (.iconst 0, 1) := by decide +kernel
theorem d_X_undo_11 : decode c_X_undo 11 = .ok (.ireturn, 1) := by decide +kernel
theorem d_X_undo_12 : decode c_X_undo 12 = .ok (.aload_n 0, 1) := by decide +kernel
theorem d_X_undo_13 : decode c_X_undo 13 = .ok (.getfield 19, 3) := by decide +kernel
theorem d_X_undo_16 : decode c_X_undo 16 = .ok (.invokevirtual 46, 3) := by decide +kernel
theorem d_X_undo_19 : decode c_X_undo 19 = .ok (.aload_n 0, 1) := by decide +kernel
theorem d_X_undo_20 : decode c_X_undo 20 = .ok (.getfield 12, 3) := by decide +kernel
theorem d_X_undo_23 : decode c_X_undo 23 = .ok (.dup, 1) := by decide +kernel
theorem d_X_undo_24 : decode c_X_undo 24 = .ok (.getfield 62, 3) := by decide +kernel
theorem d_X_undo_27 : decode c_X_undo 27 = .ok (.iconst 1, 1) := by decide +kernel
theorem d_X_undo_28 : decode c_X_undo 28 = .ok (.isub, 1) := by decide +kernel
theorem d_X_undo_29 : decode c_X_undo 29 = .ok (.putfield 62, 3) := by decide +kernel
theorem d_X_undo_32 : decode c_X_undo 32 = .ok (.iconst 1, 1) := by decide +kernel
theorem d_X_undo_33 : decode c_X_undo 33 = .ok (.ireturn, 1) := by decide +kernel
theorem d_C_forget_0 : decode c_C_forget 0 = .ok (.aload_n 0, 1) := by decide +kernel
theorem d_C_forget_1 : decode c_C_forget 1 = .ok (.iconst 0, 1) := by decide +kernel
theorem d_C_forget_2 : decode c_C_forget 2 = .ok (.putfield 36, 3) := by decide +kernel
theorem d_C_forget_5 : decode c_C_forget 5 = .ok (.return_, 1) := by decide +kernel
theorem d_X_told_0 : decode c_X_told 0 = .ok (.aload_n 0, 1) := by decide +kernel
theorem d_X_told_1 : decode c_X_told 1 = .ok (.getfield 12, 3) := by decide +kernel
theorem d_X_told_4 : decode c_X_told 4 = .ok (.iload_n 1, 1) := by decide +kernel
theorem d_X_told_5 : decode c_X_told 5 = .ok (.invokevirtual 71, 3) := by decide +kernel
theorem d_X_told_8 : decode c_X_told 8 = .ok (.ifCond .ne 5, 3) := by decide +kernel
theorem d_X_told_11 : decode c_X_told 11 = .ok (.iconst (-1), 1) := by decide +kernel
theorem d_X_told_12 : decode c_X_told 12 = .ok (.ireturn, 1) := by decide +kernel
theorem d_X_told_13 : decode c_X_told 13 = .ok (.iload_n 2, 1) := by decide +kernel
theorem d_X_told_14 : decode c_X_told 14 = .ok (.tableswitch 56 0 2 #[26, 36, 46], 26) := by decide +kernel
theorem d_X_told_40 : decode c_X_told 40 = .ok (.aload_n 0, 1) := by decide +kernel
theorem d_X_told_41 : decode c_X_told 41 = .ok (.getfield 12, 3) := by decide +kernel
theorem d_X_told_44 : decode c_X_told 44 = .ok (.getfield 74, 3) := by decide +kernel
theorem d_X_told_47 : decode c_X_told 47 = .ok (.iload_n 1, 1) := by decide +kernel
theorem d_X_told_48 : decode c_X_told 48 = .ok (.iaload, 1) := by decide +kernel
theorem d_X_told_49 : decode c_X_told 49 = .ok (.ireturn, 1) := by decide +kernel
theorem d_X_told_50 : decode c_X_told 50 = .ok (.aload_n 0, 1) := by decide +kernel
theorem d_X_told_51 : decode c_X_told 51 = .ok (.getfield 12, 3) := by decide +kernel
theorem d_X_told_54 : decode c_X_told 54 = .ok (.getfield 78, 3) := by decide +kernel
theorem d_X_told_57 : decode c_X_told 57 = .ok (.iload_n 1, 1) := by decide +kernel
theorem d_X_told_58 : decode c_X_told 58 = .ok (.iaload, 1) := by decide +kernel
theorem d_X_told_59 : decode c_X_told 59 = .ok (.ireturn, 1) := by decide +kernel
theorem d_X_told_60 : decode c_X_told 60 = .ok (.aload_n 0, 1) := by decide +kernel
theorem d_X_told_61 : decode c_X_told 61 = .ok (.getfield 12, 3) := by decide +kernel
theorem d_X_told_64 : decode c_X_told 64 = .ok (.getfield 81, 3) := by decide +kernel
theorem d_X_told_67 : decode c_X_told 67 = .ok (.iload_n 1, 1) := by decide +kernel
theorem d_X_told_68 : decode c_X_told 68 = .ok (.iaload, 1) := by decide +kernel
theorem d_X_told_69 : decode c_X_told 69 = .ok (.ireturn, 1) := by decide +kernel
theorem d_X_told_70 : decode c_X_told 70 = .ok (.iconst (-1), 1) := by decide +kernel
theorem d_X_told_71 : decode c_X_told 71 = .ok (.ireturn, 1) := by decide +kernel
theorem d_P_hasCall_0 : decode c_P_hasCall 0 = .ok (.iload_n 1, 1) := by decide +kernel
theorem d_P_hasCall_1 : decode c_P_hasCall 1 = .ok (.ifCond .lt 15, 3) := by decide +kernel
theorem d_P_hasCall_4 : decode c_P_hasCall 4 = .ok (.iload_n 1, 1) := by decide +kernel
theorem d_P_hasCall_5 : decode c_P_hasCall 5 = .ok (.aload_n 0, 1) := by decide +kernel
theorem d_P_hasCall_6 : decode c_P_hasCall 6 = .ok (.getfield 28, 3) := by decide +kernel
theorem d_P_hasCall_9 : decode c_P_hasCall 9 = .ok (.if_icmp .ge 7, 3) := by decide +kernel
theorem d_P_hasCall_12 : decode c_P_hasCall 12 = .ok (.iconst 1, 1) := by decide +kernel
theorem d_P_hasCall_13 : decode c_P_hasCall 13 = .ok (.goto 4, 3) := by decide +kernel
theorem d_P_hasCall_16 : decode c_P_hasCall 16 = .ok (.iconst 0, 1) := by decide +kernel
theorem d_P_hasCall_17 : decode c_P_hasCall 17 = .ok (.ireturn, 1) := by decide +kernel
theorem d_X_order_0 : decode c_X_order 0 = .ok (.aload_n 0, 1) := by decide +kernel
theorem d_X_order_1 : decode c_X_order 1 = .ok (.getfield 12, 3) := by decide +kernel
theorem d_X_order_4 : decode c_X_order 4 = .ok (.iload_n 1, 1) := by decide +kernel
theorem d_X_order_5 : decode c_X_order 5 = .ok (.invokevirtual 53, 3) := by decide +kernel
theorem d_X_order_8 : decode c_X_order 8 = .ok (.ifCond .ne 5, 3) := by decide +kernel
theorem d_X_order_11 : decode c_X_order 11 = .ok (.iconst (-1), 1) := by decide +kernel
theorem d_X_order_12 : decode c_X_order 12 = .ok (.ireturn, 1) := by decide +kernel
theorem d_X_order_13 : decode c_X_order 13 = .ok (.aload_n 0, 1) := by decide +kernel
theorem d_X_order_14 : decode c_X_order 14 = .ok (.getfield 26, 3) := by decide +kernel
theorem d_X_order_17 : decode c_X_order 17 = .ok (.aload_n 0, 1) := by decide +kernel
theorem d_X_order_18 : decode c_X_order 18 = .ok (.getfield 12, 3) := by decide +kernel
theorem d_X_order_21 : decode c_X_order 21 = .ok (.iload_n 1, 1) := by decide +kernel
theorem d_X_order_22 : decode c_X_order 22 = .ok (.invokevirtual 108, 3) := by decide +kernel
theorem d_X_order_25 : decode c_X_order 25 = .ok (.iload_n 2, 1) := by decide +kernel
theorem d_X_order_26 : decode c_X_order 26 = .ok (.iconst (-1), 1) := by decide +kernel
theorem d_X_order_27 : decode c_X_order 27 = .ok (.if_icmp .ne 11, 3) := by decide +kernel
theorem d_X_order_30 : decode c_X_order 30 = .ok (.aload_n 0, 1) := by decide +kernel
theorem d_X_order_31 : decode c_X_order 31 = .ok (.getfield 26, 3) := by decide +kernel
theorem d_X_order_34 : decode c_X_order 34 = .ok (.getfield 112, 3) := by decide +kernel
theorem d_X_order_37 : decode c_X_order 37 = .ok (.ireturn, 1) := by decide +kernel
theorem d_X_order_38 : decode c_X_order 38 = .ok (.iload_n 2, 1) := by decide +kernel
theorem d_X_order_39 : decode c_X_order 39 = .ok (.ifCond .lt 14, 3) := by decide +kernel
theorem d_X_order_42 : decode c_X_order 42 = .ok (.iload_n 2, 1) := by decide +kernel
theorem d_X_order_43 : decode c_X_order 43 = .ok (.aload_n 0, 1) := by decide +kernel
theorem d_X_order_44 : decode c_X_order 44 = .ok (.getfield 26, 3) := by decide +kernel
theorem d_X_order_47 : decode c_X_order 47 = .ok (.getfield 112, 3) := by decide +kernel
theorem d_X_order_50 : decode c_X_order 50 = .ok (.if_icmp .lt 5, 3) := by decide +kernel
theorem d_X_order_53 : decode c_X_order 53 = .ok (.iconst (-1), 1) := by decide +kernel
theorem d_X_order_54 : decode c_X_order 54 = .ok (.ireturn, 1) := by decide +kernel
theorem d_X_order_55 : decode c_X_order 55 = .ok (.aload_n 0, 1) := by decide +kernel
theorem d_X_order_56 : decode c_X_order 56 = .ok (.getfield 26, 3) := by decide +kernel
theorem d_X_order_59 : decode c_X_order 59 = .ok (.getfield 115, 3) := by decide +kernel
theorem d_X_order_62 : decode c_X_order 62 = .ok (.iload_n 2, 1) := by decide +kernel
theorem d_X_order_63 : decode c_X_order 63 = .ok (.iaload, 1) := by decide +kernel
theorem d_X_order_64 : decode c_X_order 64 = .ok (.ireturn, 1) := by decide +kernel
theorem d_P_hasFunction_0 : decode c_P_hasFunction 0 = .ok (.iload_n 1, 1) := by decide +kernel
theorem d_P_hasFunction_1 : decode c_P_hasFunction 1 = .ok (.ifCond .lt 15, 3) := by decide +kernel
theorem d_P_hasFunction_4 : decode c_P_hasFunction 4 = .ok (.iload_n 1, 1) := by decide +kernel
theorem d_P_hasFunction_5 : decode c_P_hasFunction 5 = .ok (.aload_n 0, 1) := by decide +kernel
theorem d_P_hasFunction_6 : decode c_P_hasFunction 6 = .ok (.getfield 24, 3) := by decide +kernel
theorem d_P_hasFunction_9 : decode c_P_hasFunction 9 = .ok (.if_icmp .ge 7, 3) := by decide +kernel
theorem d_P_hasFunction_12 : decode c_P_hasFunction 12 = .ok (.iconst 1, 1) := by decide +kernel
theorem d_P_hasFunction_13 : decode c_P_hasFunction 13 = .ok (.goto 4, 3) := by decide +kernel
theorem d_P_hasFunction_16 : decode c_P_hasFunction 16 = .ok (.iconst 0, 1) := by decide +kernel
theorem d_P_hasFunction_17 : decode c_P_hasFunction 17 = .ok (.ireturn, 1) := by decide +kernel
theorem d_O_find_0 : decode c_O_find 0 = .ok (.aload_n 1, 1) := by decide +kernel
theorem d_O_find_1 : decode c_O_find 1 = .ok (.iload_n 2, 1) := by decide +kernel
theorem d_O_find_2 : decode c_O_find 2 = .ok (.invokestatic 15, 3) := by decide +kernel
theorem d_O_find_5 : decode c_O_find 5 = .ok (.istore_n 3, 1) := by decide +kernel
theorem d_O_find_6 : decode c_O_find 6 = .ok (.aload_n 0, 1) := by decide +kernel
theorem d_O_find_7 : decode c_O_find 7 = .ok (.iconst 0, 1) := by decide +kernel
theorem d_O_find_8 : decode c_O_find 8 = .ok (.putfield 19, 3) := by decide +kernel
theorem d_O_find_11 : decode c_O_find 11 = .ok (.iload_n 3, 1) := by decide +kernel
theorem d_O_find_12 : decode c_O_find 12 = .ok (.ifCond .eq 63, 3) := by decide +kernel
theorem d_O_find_15 : decode c_O_find 15 = .ok (.aload_n 0, 1) := by decide +kernel
theorem d_O_find_16 : decode c_O_find 16 = .ok (.getfield 19, 3) := by decide +kernel
theorem d_O_find_19 : decode c_O_find 19 = .ok (.iconst 4, 1) := by decide +kernel
theorem d_O_find_20 : decode c_O_find 20 = .ok (.if_icmp .ge 55, 3) := by decide +kernel
theorem d_O_find_23 : decode c_O_find 23 = .ok (.aload_n 1, 1) := by decide +kernel
theorem d_O_find_24 : decode c_O_find 24 = .ok (.iload_n 2, 1) := by decide +kernel
theorem d_O_find_25 : decode c_O_find 25 = .ok (.iload_n 3, 1) := by decide +kernel
theorem d_O_find_26 : decode c_O_find 26 = .ok (.invokestatic 23, 3) := by decide +kernel
theorem d_O_find_29 : decode c_O_find 29 = .ok (.istore 4, 2) := by decide +kernel
theorem d_O_find_31 : decode c_O_find 31 = .ok (.iload 4, 2) := by decide +kernel
theorem d_O_find_33 : decode c_O_find 33 = .ok (.iconst (-1), 1) := by decide +kernel
theorem d_O_find_34 : decode c_O_find 34 = .ok (.if_icmp .ne 6, 3) := by decide +kernel
theorem d_O_find_37 : decode c_O_find 37 = .ok (.goto 38, 3) := by decide +kernel
theorem d_O_find_40 : decode c_O_find 40 = .ok (.aload_n 0, 1) := by decide +kernel
theorem d_O_find_41 : decode c_O_find 41 = .ok (.getfield 9, 3) := by decide +kernel
theorem d_O_find_44 : decode c_O_find 44 = .ok (.aload_n 0, 1) := by decide +kernel
theorem d_O_find_45 : decode c_O_find 45 = .ok (.getfield 19, 3) := by decide +kernel
theorem d_O_find_48 : decode c_O_find 48 = .ok (.iload 4, 2) := by decide +kernel
theorem d_O_find_50 : decode c_O_find 50 = .ok (.iastore, 1) := by decide +kernel
theorem d_O_find_51 : decode c_O_find 51 = .ok (.aload_n 0, 1) := by decide +kernel
theorem d_O_find_52 : decode c_O_find 52 = .ok (.dup, 1) := by decide +kernel
theorem d_O_find_53 : decode c_O_find 53 = .ok (.getfield 19, 3) := by decide +kernel
theorem d_O_find_56 : decode c_O_find 56 = .ok (.iconst 1, 1) := by decide +kernel
theorem d_O_find_57 : decode c_O_find 57 = .ok (.iadd, 1) := by decide +kernel
theorem d_O_find_58 : decode c_O_find 58 = .ok (.putfield 19, 3) := by decide +kernel
theorem d_O_find_61 : decode c_O_find 61 = .ok (.iload_n 3, 1) := by decide +kernel
theorem d_O_find_62 : decode c_O_find 62 = .ok (.aload_n 1, 1) := by decide +kernel
theorem d_O_find_63 : decode c_O_find 63 = .ok (.iload 4, 2) := by decide +kernel
theorem d_O_find_65 : decode c_O_find 65 = .ok (.invokestatic 27, 3) := by decide +kernel
theorem d_O_find_68 : decode c_O_find 68 = .ok (.iconst (-1), 1) := by decide +kernel
theorem d_O_find_69 : decode c_O_find 69 = .ok (.ixor, 1) := by decide +kernel
theorem d_O_find_70 : decode c_O_find 70 = .ok (.iand, 1) := by decide +kernel
theorem d_O_find_71 : decode c_O_find 71 = .ok (.istore_n 3, 1) := by decide +kernel
theorem d_O_find_72 : decode c_O_find 72 = .ok (.goto (-61), 3) := by decide +kernel
theorem d_O_find_75 : decode c_O_find 75 = .ok (.iload_n 3, 1) := by decide +kernel
theorem d_O_find_76 : decode c_O_find 76 = .ok (.ifCond .eq 8, 3) := by decide +kernel
theorem d_O_find_79 : decode c_O_find 79 = .ok (.aload_n 0, 1) := by decide +kernel
theorem d_O_find_80 : decode c_O_find 80 = .ok (.iconst (-1), 1) := by decide +kernel
theorem d_O_find_81 : decode c_O_find 81 = .ok (.putfield 19, 3) := by decide +kernel
theorem d_O_find_84 : decode c_O_find 84 = .ok (.return_, 1) := by decide +kernel
theorem d_O_callsToItself_0 : decode c_O_callsToItself 0 = .ok (.iconst 0, 1) := by decide +kernel
theorem d_O_callsToItself_1 : decode c_O_callsToItself 1 = .ok (.istore_n 2, 1) := by decide +kernel
theorem d_O_callsToItself_2 : decode c_O_callsToItself 2 = .ok (.iconst 0, 1) := by decide +kernel
theorem d_O_callsToItself_3 : decode c_O_callsToItself 3 = .ok (.istore_n 3, 1) := by decide +kernel
theorem d_O_callsToItself_4 : decode c_O_callsToItself 4 = .ok (.iload_n 3, 1) := by decide +kernel
theorem d_O_callsToItself_5 : decode c_O_callsToItself 5 = .ok (.aload_n 0, 1) := by decide +kernel
theorem d_O_callsToItself_6 : decode c_O_callsToItself 6 = .ok (.getfield 30, 3) := by decide +kernel
theorem d_O_callsToItself_9 : decode c_O_callsToItself 9 = .ok (.if_icmp .ge 35, 3) := by decide +kernel
theorem d_O_callsToItself_12 : decode c_O_callsToItself 12 = .ok (.aload_n 0, 1) := by decide +kernel
theorem d_O_callsToItself_13 : decode c_O_callsToItself 13 = .ok (.getfield 35, 3) := by decide +kernel
theorem d_O_callsToItself_16 : decode c_O_callsToItself 16 = .ok (.iload_n 3, 1) := by decide +kernel
theorem d_O_callsToItself_17 : decode c_O_callsToItself 17 = .ok (.iaload, 1) := by decide +kernel
theorem d_O_callsToItself_18 : decode c_O_callsToItself 18 = .ok (.iload_n 1, 1) := by decide +kernel
theorem d_O_callsToItself_19 : decode c_O_callsToItself 19 = .ok (.if_icmp .ne 19, 3) := by decide +kernel
theorem d_O_callsToItself_22 : decode c_O_callsToItself 22 = .ok (.aload_n 0, 1) := by decide +kernel
theorem d_O_callsToItself_23 : decode c_O_callsToItself 23 = .ok (.getfield 38, 3) := by decide +kernel
theorem d_O_callsToItself_26 : decode c_O_callsToItself 26 = .ok (.iload_n 3, 1) := by decide +kernel
theorem d_O_callsToItself_27 : decode c_O_callsToItself 27 = .ok (.iaload, 1) := by decide +kernel
theorem d_O_callsToItself_28 : decode c_O_callsToItself 28 = .ok (.iload_n 1, 1) := by decide +kernel
theorem d_O_callsToItself_29 : decode c_O_callsToItself 29 = .ok (.if_icmp .ne 9, 3) := by decide +kernel
theorem d_O_callsToItself_32 : decode c_O_callsToItself 32 = .ok (.iload_n 2, 1) := by decide +kernel
theorem d_O_callsToItself_33 : decode c_O_callsToItself 33 = .ok (.iconst 1, 1) := by decide +kernel
theorem d_O_callsToItself_34 : decode c_O_callsToItself 34 = .ok (.iload_n 3, 1) := by decide +kernel
theorem d_O_callsToItself_35 : decode c_O_callsToItself 35 = .ok (.ishl, 1) := by decide +kernel
theorem d_O_callsToItself_36 : decode c_O_callsToItself 36 = .ok (.ior, 1) := by decide +kernel
theorem d_O_callsToItself_37 : decode c_O_callsToItself 37 = .ok (.istore_n 2, 1) := by decide +kernel
theorem d_O_callsToItself_38 : decode c_O_callsToItself 38 = .ok (.iinc 3 1, 3) := by decide +kernel
theorem d_O_callsToItself_41 : decode c_O_callsToItself 41 = .ok (.goto (-37), 3) := by decide +kernel
theorem d_O_callsToItself_44 : decode c_O_callsToItself 44 = .ok (.iload_n 2, 1) := by decide +kernel
theorem d_O_callsToItself_45 : decode c_O_callsToItself 45 = .ok (.ireturn, 1) := by decide +kernel
theorem d_O_nextPlace_0 : decode c_O_nextPlace 0 = .ok (.iconst 0, 1) := by decide +kernel
theorem d_O_nextPlace_1 : decode c_O_nextPlace 1 = .ok (.istore_n 3, 1) := by decide +kernel
theorem d_O_nextPlace_2 : decode c_O_nextPlace 2 = .ok (.iload_n 3, 1) := by decide +kernel
theorem d_O_nextPlace_3 : decode c_O_nextPlace 3 = .ok (.aload_n 0, 1) := by decide +kernel
theorem d_O_nextPlace_4 : decode c_O_nextPlace 4 = .ok (.getfield 50, 3) := by decide +kernel
theorem d_O_nextPlace_7 : decode c_O_nextPlace 7 = .ok (.iload_n 1, 1) := by decide +kernel
theorem d_O_nextPlace_8 : decode c_O_nextPlace 8 = .ok (.iaload, 1) := by decide +kernel
theorem d_O_nextPlace_9 : decode c_O_nextPlace 9 = .ok (.if_icmp .ge 88, 3) := by decide +kernel
theorem d_O_nextPlace_12 : decode c_O_nextPlace 12 = .ok (.iconst 2, 1) := by decide +kernel
theorem d_O_nextPlace_13 : decode c_O_nextPlace 13 = .ok (.istore 4, 2) := by decide +kernel
theorem d_O_nextPlace_15 : decode c_O_nextPlace 15 = .ok (.iconst 0, 1) := by decide +kernel
theorem d_O_nextPlace_16 : decode c_O_nextPlace 16 = .ok (.istore 5, 2) := by decide +kernel
theorem d_O_nextPlace_18 : decode c_O_nextPlace 18 = .ok (.iconst 0, 1) := by decide +kernel
theorem d_O_nextPlace_19 : decode c_O_nextPlace 19 = .ok (.istore 6, 2) := by decide +kernel
theorem d_O_nextPlace_21 : decode c_O_nextPlace 21 = .ok (.iload 6, 2) := by decide +kernel
theorem d_O_nextPlace_23 : decode c_O_nextPlace 23 = .ok (.aload_n 0, 1) := by decide +kernel
theorem d_O_nextPlace_24 : decode c_O_nextPlace 24 = .ok (.getfield 30, 3) := by decide +kernel
theorem d_O_nextPlace_27 : decode c_O_nextPlace 27 = .ok (.if_icmp .ge 50, 3) := by decide +kernel
theorem d_O_nextPlace_30 : decode c_O_nextPlace 30 = .ok (.iload_n 2, 1) := by decide +kernel
theorem d_O_nextPlace_31 : decode c_O_nextPlace 31 = .ok (.iload 6, 2) := by decide +kernel
theorem d_O_nextPlace_33 : decode c_O_nextPlace 33 = .ok (.iushr, 1) := by decide +kernel
theorem d_O_nextPlace_34 : decode c_O_nextPlace 34 = .ok (.iconst 1, 1) := by decide +kernel
theorem d_O_nextPlace_35 : decode c_O_nextPlace 35 = .ok (.iand, 1) := by decide +kernel
theorem d_O_nextPlace_36 : decode c_O_nextPlace 36 = .ok (.ifCond .eq 35, 3) := by decide +kernel
theorem d_O_nextPlace_39 : decode c_O_nextPlace 39 = .ok (.aload_n 0, 1) := by decide +kernel
theorem d_O_nextPlace_40 : decode c_O_nextPlace 40 = .ok (.getfield 41, 3) := by decide +kernel
theorem d_O_nextPlace_43 : decode c_O_nextPlace 43 = .ok (.iload 6, 2) := by decide +kernel
theorem d_O_nextPlace_45 : decode c_O_nextPlace 45 = .ok (.iaload, 1) := by decide +kernel
theorem d_O_nextPlace_46 : decode c_O_nextPlace 46 = .ok (.iload_n 3, 1) := by decide +kernel
theorem d_O_nextPlace_47 : decode c_O_nextPlace 47 = .ok (.iload_n 3, 1) := by decide +kernel
theorem d_O_nextPlace_48 : decode c_O_nextPlace 48 = .ok (.invokestatic 44, 3) := by decide +kernel
theorem d_O_nextPlace_51 : decode c_O_nextPlace 51 = .ok (.istore 7, 2) := by decide +kernel
theorem d_O_nextPlace_53 : decode c_O_nextPlace 53 = .ok (.iload 4, 2) := by decide +kernel
theorem d_O_nextPlace_55 : decode c_O_nextPlace 55 = .ok (.iload 7, 2) := by decide +kernel
theorem d_O_nextPlace_57 : decode c_O_nextPlace 57 = .ok (.invokestatic 53, 3) := by decide +kernel
theorem d_O_nextPlace_60 : decode c_O_nextPlace 60 = .ok (.istore 4, 2) := by decide +kernel
theorem d_O_nextPlace_62 : decode c_O_nextPlace 62 = .ok (.iload 5, 2) := by decide +kernel
theorem d_O_nextPlace_64 : decode c_O_nextPlace 64 = .ok (.iload 7, 2) := by decide +kernel
theorem d_O_nextPlace_66 : decode c_O_nextPlace 66 = .ok (.invokestatic 59, 3) := by decide +kernel
theorem d_O_nextPlace_69 : decode c_O_nextPlace 69 = .ok (.istore 5, 2) := by decide +kernel
theorem d_O_nextPlace_71 : decode c_O_nextPlace 71 = .ok (.iinc 6 1, 3) := by decide +kernel
theorem d_O_nextPlace_74 : decode c_O_nextPlace 74 = .ok (.goto (-53), 3) := by decide +kernel
theorem d_O_nextPlace_77 : decode c_O_nextPlace 77 = .ok (.iload 4, 2) := by decide +kernel
theorem d_O_nextPlace_79 : decode c_O_nextPlace 79 = .ok (.iconst 1, 1) := by decide +kernel
theorem d_O_nextPlace_80 : decode c_O_nextPlace 80 = .ok (.if_icmp .lt 11, 3) := by decide +kernel
theorem d_O_nextPlace_83 : decode c_O_nextPlace 83 = .ok (.iload 5, 2) := by decide +kernel
theorem d_O_nextPlace_85 : decode c_O_nextPlace 85 = .ok (.iconst 2, 1) := by decide +kernel
theorem d_O_nextPlace_86 : decode c_O_nextPlace 86 = .ok (.if_icmp .ne 5, 3) := by decide +kernel
theorem d_O_nextPlace_89 : decode c_O_nextPlace 89 = .ok (.iload_n 3, 1) := by decide +kernel
theorem d_O_nextPlace_90 : decode c_O_nextPlace 90 = .ok (.ireturn, 1) := by decide +kernel
theorem d_O_nextPlace_91 : decode c_O_nextPlace 91 = .ok (.iinc 3 1, 3) := by decide +kernel
theorem d_O_nextPlace_94 : decode c_O_nextPlace 94 = .ok (.goto (-92), 3) := by decide +kernel
theorem d_O_nextPlace_97 : decode c_O_nextPlace 97 = .ok (.iconst (-1), 1) := by decide +kernel
theorem d_O_nextPlace_98 : decode c_O_nextPlace 98 = .ok (.ireturn, 1) := by decide +kernel
theorem d_G_at_0 : decode c_G_at 0 = .ok (.iload_n 0, 1) := by decide +kernel
theorem d_G_at_1 : decode c_G_at 1 = .ok (.bipush 8, 2) := by decide +kernel
theorem d_G_at_3 : decode c_G_at 3 = .ok (.iload_n 1, 1) := by decide +kernel
theorem d_G_at_4 : decode c_G_at 4 = .ok (.imul, 1) := by decide +kernel
theorem d_G_at_5 : decode c_G_at 5 = .ok (.iconst 2, 1) := by decide +kernel
theorem d_G_at_6 : decode c_G_at 6 = .ok (.iload_n 2, 1) := by decide +kernel
theorem d_G_at_7 : decode c_G_at 7 = .ok (.imul, 1) := by decide +kernel
theorem d_G_at_8 : decode c_G_at 8 = .ok (.iadd, 1) := by decide +kernel
theorem d_G_at_9 : decode c_G_at 9 = .ok (.iushr, 1) := by decide +kernel
theorem d_G_at_10 : decode c_G_at 10 = .ok (.iconst 3, 1) := by decide +kernel
theorem d_G_at_11 : decode c_G_at 11 = .ok (.iand, 1) := by decide +kernel
theorem d_G_at_12 : decode c_G_at 12 = .ok (.ireturn, 1) := by decide +kernel
theorem d_O_callsWhereLess_0 : decode c_O_callsWhereLess 0 = .ok (.iconst 0, 1) := by decide +kernel
theorem d_O_callsWhereLess_1 : decode c_O_callsWhereLess 1 = .ok (.istore_n 2, 1) := by decide +kernel
theorem d_O_callsWhereLess_2 : decode c_O_callsWhereLess 2 = .ok (.iconst 0, 1) := by decide +kernel
theorem d_O_callsWhereLess_3 : decode c_O_callsWhereLess 3 = .ok (.istore_n 3, 1) := by decide +kernel
theorem d_O_callsWhereLess_4 : decode c_O_callsWhereLess 4 = .ok (.iload_n 3, 1) := by decide +kernel
theorem d_O_callsWhereLess_5 : decode c_O_callsWhereLess 5 = .ok (.aload_n 0, 1) := by decide +kernel
theorem d_O_callsWhereLess_6 : decode c_O_callsWhereLess 6 = .ok (.getfield 30, 3) := by decide +kernel
theorem d_O_callsWhereLess_9 : decode c_O_callsWhereLess 9 = .ok (.if_icmp .ge 30, 3) := by decide +kernel
theorem d_O_callsWhereLess_12 : decode c_O_callsWhereLess 12 = .ok (.aload_n 0, 1) := by decide +kernel
theorem d_O_callsWhereLess_13 : decode c_O_callsWhereLess 13 = .ok (.getfield 41, 3) := by decide +kernel
theorem d_O_callsWhereLess_16 : decode c_O_callsWhereLess 16 = .ok (.iload_n 3, 1) := by decide +kernel
theorem d_O_callsWhereLess_17 : decode c_O_callsWhereLess 17 = .ok (.iaload, 1) := by decide +kernel
theorem d_O_callsWhereLess_18 : decode c_O_callsWhereLess 18 = .ok (.iload_n 1, 1) := by decide +kernel
theorem d_O_callsWhereLess_19 : decode c_O_callsWhereLess 19 = .ok (.iload_n 1, 1) := by decide +kernel
theorem d_O_callsWhereLess_20 : decode c_O_callsWhereLess 20 = .ok (.invokestatic 44, 3) := by decide +kernel
theorem d_O_callsWhereLess_23 : decode c_O_callsWhereLess 23 = .ok (.iconst 2, 1) := by decide +kernel
theorem d_O_callsWhereLess_24 : decode c_O_callsWhereLess 24 = .ok (.if_icmp .ne 9, 3) := by decide +kernel
theorem d_O_callsWhereLess_27 : decode c_O_callsWhereLess 27 = .ok (.iload_n 2, 1) := by decide +kernel
theorem d_O_callsWhereLess_28 : decode c_O_callsWhereLess 28 = .ok (.iconst 1, 1) := by decide +kernel
theorem d_O_callsWhereLess_29 : decode c_O_callsWhereLess 29 = .ok (.iload_n 3, 1) := by decide +kernel
theorem d_O_callsWhereLess_30 : decode c_O_callsWhereLess 30 = .ok (.ishl, 1) := by decide +kernel
theorem d_O_callsWhereLess_31 : decode c_O_callsWhereLess 31 = .ok (.ior, 1) := by decide +kernel
theorem d_O_callsWhereLess_32 : decode c_O_callsWhereLess 32 = .ok (.istore_n 2, 1) := by decide +kernel
theorem d_O_callsWhereLess_33 : decode c_O_callsWhereLess 33 = .ok (.iinc 3 1, 3) := by decide +kernel
theorem d_O_callsWhereLess_36 : decode c_O_callsWhereLess 36 = .ok (.goto (-32), 3) := by decide +kernel
theorem d_O_callsWhereLess_39 : decode c_O_callsWhereLess 39 = .ok (.iload_n 2, 1) := by decide +kernel
theorem d_O_callsWhereLess_40 : decode c_O_callsWhereLess 40 = .ok (.ireturn, 1) := by decide +kernel
theorem d_X_reached_0 : decode c_X_reached 0 = .ok (.aload_n 0, 1) := by decide +kernel
theorem d_X_reached_1 : decode c_X_reached 1 = .ok (.getfield 12, 3) := by decide +kernel
theorem d_X_reached_4 : decode c_X_reached 4 = .ok (.iload_n 1, 1) := by decide +kernel
theorem d_X_reached_5 : decode c_X_reached 5 = .ok (.invokevirtual 53, 3) := by decide +kernel
theorem d_X_reached_8 : decode c_X_reached 8 = .ok (.ifCond .eq 14, 3) := by decide +kernel
theorem d_X_reached_11 : decode c_X_reached 11 = .ok (.aload_n 0, 1) := by decide +kernel
theorem d_X_reached_12 : decode c_X_reached 12 = .ok (.getfield 12, 3) := by decide +kernel
theorem d_X_reached_15 : decode c_X_reached 15 = .ok (.iload_n 1, 1) := by decide +kernel
theorem d_X_reached_16 : decode c_X_reached 16 = .ok (.invokevirtual 99, 3) := by decide +kernel
theorem d_X_reached_19 : decode c_X_reached 19 = .ok (.goto 4, 3) := by decide +kernel
theorem d_X_reached_22 : decode c_X_reached 22 = .ok (.iconst (-1), 1) := by decide +kernel
theorem d_X_reached_23 : decode c_X_reached 23 = .ok (.ireturn, 1) := by decide +kernel
theorem d_P_reachedFrom_0 : decode c_P_reachedFrom 0 = .ok (.iconst 0, 1) := by decide +kernel
theorem d_P_reachedFrom_1 : decode c_P_reachedFrom 1 = .ok (.istore_n 2, 1) := by decide +kernel
theorem d_P_reachedFrom_2 : decode c_P_reachedFrom 2 = .ok (.iconst 1, 1) := by decide +kernel
theorem d_P_reachedFrom_3 : decode c_P_reachedFrom 3 = .ok (.istore_n 3, 1) := by decide +kernel
theorem d_P_reachedFrom_4 : decode c_P_reachedFrom 4 = .ok (.iload_n 3, 1) := by decide +kernel
theorem d_P_reachedFrom_5 : decode c_P_reachedFrom 5 = .ok (.aload_n 0, 1) := by decide +kernel
theorem d_P_reachedFrom_6 : decode c_P_reachedFrom 6 = .ok (.getfield 24, 3) := by decide +kernel
theorem d_P_reachedFrom_9 : decode c_P_reachedFrom 9 = .ok (.if_icmp .gt 64, 3) := by decide +kernel
theorem d_P_reachedFrom_12 : decode c_P_reachedFrom 12 = .ok (.iconst 0, 1) := by decide +kernel
theorem d_P_reachedFrom_13 : decode c_P_reachedFrom 13 = .ok (.istore 4, 2) := by decide +kernel
theorem d_P_reachedFrom_15 : decode c_P_reachedFrom 15 = .ok (.iload 4, 2) := by decide +kernel
theorem d_P_reachedFrom_17 : decode c_P_reachedFrom 17 = .ok (.aload_n 0, 1) := by decide +kernel
theorem d_P_reachedFrom_18 : decode c_P_reachedFrom 18 = .ok (.getfield 28, 3) := by decide +kernel
theorem d_P_reachedFrom_21 : decode c_P_reachedFrom 21 = .ok (.if_icmp .ge 46, 3) := by decide +kernel
theorem d_P_reachedFrom_24 : decode c_P_reachedFrom 24 = .ok (.aload_n 0, 1) := by decide +kernel
theorem d_P_reachedFrom_25 : decode c_P_reachedFrom 25 = .ok (.getfield 15, 3) := by decide +kernel
theorem d_P_reachedFrom_28 : decode c_P_reachedFrom 28 = .ok (.iload 4, 2) := by decide +kernel
theorem d_P_reachedFrom_30 : decode c_P_reachedFrom 30 = .ok (.iaload, 1) := by decide +kernel
theorem d_P_reachedFrom_31 : decode c_P_reachedFrom 31 = .ok (.iload_n 1, 1) := by decide +kernel
theorem d_P_reachedFrom_32 : decode c_P_reachedFrom 32 = .ok (.if_icmp .eq 17, 3) := by decide +kernel
theorem d_P_reachedFrom_35 : decode c_P_reachedFrom 35 = .ok (.iload_n 2, 1) := by decide +kernel
theorem d_P_reachedFrom_36 : decode c_P_reachedFrom 36 = .ok (.aload_n 0, 1) := by decide +kernel
theorem d_P_reachedFrom_37 : decode c_P_reachedFrom 37 = .ok (.getfield 15, 3) := by decide +kernel
theorem d_P_reachedFrom_40 : decode c_P_reachedFrom 40 = .ok (.iload 4, 2) := by decide +kernel
theorem d_P_reachedFrom_42 : decode c_P_reachedFrom 42 = .ok (.iaload, 1) := by decide +kernel
theorem d_P_reachedFrom_43 : decode c_P_reachedFrom 43 = .ok (.iushr, 1) := by decide +kernel
theorem d_P_reachedFrom_44 : decode c_P_reachedFrom 44 = .ok (.iconst 1, 1) := by decide +kernel
theorem d_P_reachedFrom_45 : decode c_P_reachedFrom 45 = .ok (.iand, 1) := by decide +kernel
theorem d_P_reachedFrom_46 : decode c_P_reachedFrom 46 = .ok (.ifCond .eq 15, 3) := by decide +kernel
theorem d_P_reachedFrom_49 : decode c_P_reachedFrom 49 = .ok (.iload_n 2, 1) := by decide +kernel
theorem d_P_reachedFrom_50 : decode c_P_reachedFrom 50 = .ok (.iconst 1, 1) := by decide +kernel
theorem d_P_reachedFrom_51 : decode c_P_reachedFrom 51 = .ok (.aload_n 0, 1) := by decide +kernel
theorem d_P_reachedFrom_52 : decode c_P_reachedFrom 52 = .ok (.getfield 18, 3) := by decide +kernel
theorem d_P_reachedFrom_55 : decode c_P_reachedFrom 55 = .ok (.iload 4, 2) := by decide +kernel
theorem d_P_reachedFrom_57 : decode c_P_reachedFrom 57 = .ok (.iaload, 1) := by decide +kernel
theorem d_P_reachedFrom_58 : decode c_P_reachedFrom 58 = .ok (.ishl, 1) := by decide +kernel
theorem d_P_reachedFrom_59 : decode c_P_reachedFrom 59 = .ok (.ior, 1) := by decide +kernel
theorem d_P_reachedFrom_60 : decode c_P_reachedFrom 60 = .ok (.istore_n 2, 1) := by decide +kernel
theorem d_P_reachedFrom_61 : decode c_P_reachedFrom 61 = .ok (.iinc 4 1, 3) := by decide +kernel
theorem d_P_reachedFrom_64 : decode c_P_reachedFrom 64 = .ok (.goto (-49), 3) := by decide +kernel
theorem d_P_reachedFrom_67 : decode c_P_reachedFrom 67 = .ok (.iinc 3 1, 3) := by decide +kernel
theorem d_P_reachedFrom_70 : decode c_P_reachedFrom 70 = .ok (.goto (-66), 3) := by decide +kernel
theorem d_P_reachedFrom_73 : decode c_P_reachedFrom 73 = .ok (.iload_n 2, 1) := by decide +kernel
theorem d_P_reachedFrom_74 : decode c_P_reachedFrom 74 = .ok (.ireturn, 1) := by decide +kernel
theorem d_X_product_0 : decode c_X_product 0 = .ok (.iload_n 3, 1) := by decide +kernel
theorem d_X_product_1 : decode c_X_product 1 = .ok (.iconst 1, 1) := by decide +kernel
theorem d_X_product_2 : decode c_X_product 2 = .ok (.if_icmp .lt 9, 3) := by decide +kernel
theorem d_X_product_5 : decode c_X_product 5 = .ok (.iload_n 3, 1) := by decide +kernel
theorem d_X_product_6 : decode c_X_product 6 = .ok (.bipush 12, 2) := by decide +kernel
theorem d_X_product_8 : decode c_X_product 8 = .ok (.if_icmp .le 6, 3) := by decide +kernel
theorem d_X_product_11 : decode c_X_product 11 = .ok (.bipush (-2), 2) := by decide +kernel
theorem d_X_product_13 : decode c_X_product 13 = .ok (.ireturn, 1) := by decide +kernel
theorem d_X_product_14 : decode c_X_product 14 = .ok (.lload_n 1, 1) := by decide +kernel
theorem d_X_product_15 : decode c_X_product 15 = .ok (.iconst 0, 1) := by decide +kernel
theorem d_X_product_16 : decode c_X_product 16 = .ok (.invokestatic 118, 3) := by decide +kernel
theorem d_X_product_19 : decode c_X_product 19 = .ok (.istore 4, 2) := by decide +kernel
theorem d_X_product_21 : decode c_X_product 21 = .ok (.aload_n 0, 1) := by decide +kernel
theorem d_X_product_22 : decode c_X_product 22 = .ok (.getfield 12, 3) := by decide +kernel
theorem d_X_product_25 : decode c_X_product 25 = .ok (.iload 4, 2) := by decide +kernel
theorem d_X_product_27 : decode c_X_product 27 = .ok (.invokevirtual 71, 3) := by decide +kernel
theorem d_X_product_30 : decode c_X_product 30 = .ok (.ifCond .ne 6, 3) := by decide +kernel
theorem d_X_product_33 : decode c_X_product 33 = .ok (.bipush (-2), 2) := by decide +kernel
theorem d_X_product_35 : decode c_X_product 35 = .ok (.ireturn, 1) := by decide +kernel
theorem d_X_product_36 : decode c_X_product 36 = .ok (.aload_n 0, 1) := by decide +kernel
theorem d_X_product_37 : decode c_X_product 37 = .ok (.getfield 12, 3) := by decide +kernel
theorem d_X_product_40 : decode c_X_product 40 = .ok (.getfield 81, 3) := by decide +kernel
theorem d_X_product_43 : decode c_X_product 43 = .ok (.iload 4, 2) := by decide +kernel
theorem d_X_product_45 : decode c_X_product 45 = .ok (.iaload, 1) := by decide +kernel
theorem d_X_product_46 : decode c_X_product 46 = .ok (.istore 5, 2) := by decide +kernel
theorem d_X_product_48 : decode c_X_product 48 = .ok (.iconst 1, 1) := by decide +kernel
theorem d_X_product_49 : decode c_X_product 49 = .ok (.istore 6, 2) := by decide +kernel
theorem d_X_product_51 : decode c_X_product 51 = .ok (.iload 6, 2) := by decide +kernel
theorem d_X_product_53 : decode c_X_product 53 = .ok (.iload_n 3, 1) := by decide +kernel
theorem d_X_product_54 : decode c_X_product 54 = .ok (.if_icmp .ge 76, 3) := by decide +kernel
theorem d_X_product_57 : decode c_X_product 57 = .ok (.lload_n 1, 1) := by decide +kernel
theorem d_X_product_58 : decode c_X_product 58 = .ok (.iload 6, 2) := by decide +kernel
theorem d_X_product_60 : decode c_X_product 60 = .ok (.invokestatic 118, 3) := by decide +kernel
theorem d_X_product_63 : decode c_X_product 63 = .ok (.istore 7, 2) := by decide +kernel
theorem d_X_product_65 : decode c_X_product 65 = .ok (.aload_n 0, 1) := by decide +kernel
theorem d_X_product_66 : decode c_X_product 66 = .ok (.getfield 12, 3) := by decide +kernel
theorem d_X_product_69 : decode c_X_product 69 = .ok (.iload 7, 2) := by decide +kernel
theorem d_X_product_71 : decode c_X_product 71 = .ok (.invokevirtual 71, 3) := by decide +kernel
theorem d_X_product_74 : decode c_X_product 74 = .ok (.ifCond .eq 26, 3) := by decide +kernel
theorem d_X_product_77 : decode c_X_product 77 = .ok (.aload_n 0, 1) := by decide +kernel
theorem d_X_product_78 : decode c_X_product 78 = .ok (.getfield 12, 3) := by decide +kernel
theorem d_X_product_81 : decode c_X_product 81 = .ok (.getfield 74, 3) := by decide +kernel
theorem d_X_product_84 : decode c_X_product 84 = .ok (.iload 7, 2) := by decide +kernel
theorem d_X_product_86 : decode c_X_product 86 = .ok (.iaload, 1) := by decide +kernel
theorem d_X_product_87 : decode c_X_product 87 = .ok (.aload_n 0, 1) := by decide +kernel
theorem d_X_product_88 : decode c_X_product 88 = .ok (.getfield 12, 3) := by decide +kernel
theorem d_X_product_91 : decode c_X_product 91 = .ok (.getfield 78, 3) := by decide +kernel
theorem d_X_product_94 : decode c_X_product 94 = .ok (.iload 4, 2) := by decide +kernel
theorem d_X_product_96 : decode c_X_product 96 = .ok (.iaload, 1) := by decide +kernel
theorem d_X_product_97 : decode c_X_product 97 = .ok (.if_icmp .eq 6, 3) := by decide +kernel
theorem d_X_product_100 : decode c_X_product 100 = .ok (.bipush (-2), 2) := by decide +kernel
theorem d_X_product_102 : decode c_X_product 102 = .ok (.ireturn, 1) := by decide +kernel
theorem d_X_product_103 : decode c_X_product 103 = .ok (.iload 5, 2) := by decide +kernel
theorem d_X_product_105 : decode c_X_product 105 = .ok (.aload_n 0, 1) := by decide +kernel
theorem d_X_product_106 : decode c_X_product 106 = .ok (.getfield 12, 3) := by decide +kernel
theorem d_X_product_109 : decode c_X_product 109 = .ok (.getfield 81, 3) := by decide +kernel
theorem d_X_product_112 : decode c_X_product 112 = .ok (.iload 7, 2) := by decide +kernel
theorem d_X_product_114 : decode c_X_product 114 = .ok (.iaload, 1) := by decide +kernel
theorem d_X_product_115 : decode c_X_product 115 = .ok (.invokestatic 122, 3) := by decide +kernel
theorem d_X_product_118 : decode c_X_product 118 = .ok (.istore 5, 2) := by decide +kernel
theorem d_X_product_120 : decode c_X_product 120 = .ok (.iload 7, 2) := by decide +kernel
theorem d_X_product_122 : decode c_X_product 122 = .ok (.istore 4, 2) := by decide +kernel
theorem d_X_product_124 : decode c_X_product 124 = .ok (.iinc 6 1, 3) := by decide +kernel
theorem d_X_product_127 : decode c_X_product 127 = .ok (.goto (-76), 3) := by decide +kernel
theorem d_X_product_130 : decode c_X_product 130 = .ok (.iload 5, 2) := by decide +kernel
theorem d_X_product_132 : decode c_X_product 132 = .ok (.ireturn, 1) := by decide +kernel
theorem d_X_numberInRow_0 : decode c_X_numberInRow 0 = .ok (.lload_n 0, 1) := by decide +kernel
theorem d_X_numberInRow_1 : decode c_X_numberInRow 1 = .ok (.iconst 5, 1) := by decide +kernel
theorem d_X_numberInRow_2 : decode c_X_numberInRow 2 = .ok (.iload_n 2, 1) := by decide +kernel
theorem d_X_numberInRow_3 : decode c_X_numberInRow 3 = .ok (.imul, 1) := by decide +kernel
theorem d_X_numberInRow_4 : decode c_X_numberInRow 4 = .ok (.lushr, 1) := by decide +kernel
theorem d_X_numberInRow_5 : decode c_X_numberInRow 5 = .ok (.l2i, 1) := by decide +kernel
theorem d_X_numberInRow_6 : decode c_X_numberInRow 6 = .ok (.bipush 31, 2) := by decide +kernel
theorem d_X_numberInRow_8 : decode c_X_numberInRow 8 = .ok (.iand, 1) := by decide +kernel
theorem d_X_numberInRow_9 : decode c_X_numberInRow 9 = .ok (.ireturn, 1) := by decide +kernel
theorem d_G_join_0 : decode c_G_join 0 = .ok (.iconst 0, 1) := by decide +kernel
theorem d_G_join_1 : decode c_G_join 1 = .ok (.istore_n 2, 1) := by decide +kernel
theorem d_G_join_2 : decode c_G_join 2 = .ok (.iconst 0, 1) := by decide +kernel
theorem d_G_join_3 : decode c_G_join 3 = .ok (.istore_n 3, 1) := by decide +kernel
theorem d_G_join_4 : decode c_G_join 4 = .ok (.iload_n 3, 1) := by decide +kernel
theorem d_G_join_5 : decode c_G_join 5 = .ok (.iconst 4, 1) := by decide +kernel
theorem d_G_join_6 : decode c_G_join 6 = .ok (.if_icmp .ge 71, 3) := by decide +kernel
theorem d_G_join_9 : decode c_G_join 9 = .ok (.iload_n 1, 1) := by decide +kernel
theorem d_G_join_10 : decode c_G_join 10 = .ok (.bipush 8, 2) := by decide +kernel
theorem d_G_join_12 : decode c_G_join 12 = .ok (.iload_n 3, 1) := by decide +kernel
theorem d_G_join_13 : decode c_G_join 13 = .ok (.imul, 1) := by decide +kernel
theorem d_G_join_14 : decode c_G_join 14 = .ok (.iushr, 1) := by decide +kernel
theorem d_G_join_15 : decode c_G_join 15 = .ok (.sipush 255, 3) := by decide +kernel
theorem d_G_join_18 : decode c_G_join 18 = .ok (.iand, 1) := by decide +kernel
theorem d_G_join_19 : decode c_G_join 19 = .ok (.istore 4, 2) := by decide +kernel
theorem d_G_join_21 : decode c_G_join 21 = .ok (.iload 4, 2) := by decide +kernel
theorem d_G_join_23 : decode c_G_join 23 = .ok (.iload 4, 2) := by decide +kernel
theorem d_G_join_25 : decode c_G_join 25 = .ok (.iconst 1, 1) := by decide +kernel
theorem d_G_join_26 : decode c_G_join 26 = .ok (.iushr, 1) := by decide +kernel
theorem d_G_join_27 : decode c_G_join 27 = .ok (.ior, 1) := by decide +kernel
theorem d_G_join_28 : decode c_G_join 28 = .ok (.ldc 15, 2) := by decide +kernel
theorem d_G_join_30 : decode c_G_join 30 = .ok (.iand, 1) := by decide +kernel
theorem d_G_join_31 : decode c_G_join 31 = .ok (.iconst 1, 1) := by decide +kernel
theorem d_G_join_32 : decode c_G_join 32 = .ok (.ishl, 1) := by decide +kernel
theorem d_G_join_33 : decode c_G_join 33 = .ok (.istore 5, 2) := by decide +kernel
theorem d_G_join_35 : decode c_G_join 35 = .ok (.iload_n 0, 1) := by decide +kernel
theorem d_G_join_36 : decode c_G_join 36 = .ok (.iconst 2, 1) := by decide +kernel
theorem d_G_join_37 : decode c_G_join 37 = .ok (.iload_n 3, 1) := by decide +kernel
theorem d_G_join_38 : decode c_G_join 38 = .ok (.imul, 1) := by decide +kernel
theorem d_G_join_39 : decode c_G_join 39 = .ok (.iushr, 1) := by decide +kernel
theorem d_G_join_40 : decode c_G_join 40 = .ok (.ldc 16, 2) := by decide +kernel
theorem d_G_join_42 : decode c_G_join 42 = .ok (.iand, 1) := by decide +kernel
theorem d_G_join_43 : decode c_G_join 43 = .ok (.istore 6, 2) := by decide +kernel
theorem d_G_join_45 : decode c_G_join 45 = .ok (.iload_n 0, 1) := by decide +kernel
theorem d_G_join_46 : decode c_G_join 46 = .ok (.iconst 2, 1) := by decide +kernel
theorem d_G_join_47 : decode c_G_join 47 = .ok (.iload_n 3, 1) := by decide +kernel
theorem d_G_join_48 : decode c_G_join 48 = .ok (.imul, 1) := by decide +kernel
theorem d_G_join_49 : decode c_G_join 49 = .ok (.iconst 1, 1) := by decide +kernel
theorem d_G_join_50 : decode c_G_join 50 = .ok (.iadd, 1) := by decide +kernel
theorem d_G_join_51 : decode c_G_join 51 = .ok (.iushr, 1) := by decide +kernel
theorem d_G_join_52 : decode c_G_join 52 = .ok (.ldc 16, 2) := by decide +kernel
theorem d_G_join_54 : decode c_G_join 54 = .ok (.iand, 1) := by decide +kernel
theorem d_G_join_55 : decode c_G_join 55 = .ok (.istore 7, 2) := by decide +kernel
theorem d_G_join_57 : decode c_G_join 57 = .ok (.iload_n 2, 1) := by decide +kernel
theorem d_G_join_58 : decode c_G_join 58 = .ok (.iload 6, 2) := by decide +kernel
theorem d_G_join_60 : decode c_G_join 60 = .ok (.iload 4, 2) := by decide +kernel
theorem d_G_join_62 : decode c_G_join 62 = .ok (.imul, 1) := by decide +kernel
theorem d_G_join_63 : decode c_G_join 63 = .ok (.iload 7, 2) := by decide +kernel
theorem d_G_join_65 : decode c_G_join 65 = .ok (.iload 5, 2) := by decide +kernel
theorem d_G_join_67 : decode c_G_join 67 = .ok (.imul, 1) := by decide +kernel
theorem d_G_join_68 : decode c_G_join 68 = .ok (.ior, 1) := by decide +kernel
theorem d_G_join_69 : decode c_G_join 69 = .ok (.ior, 1) := by decide +kernel
theorem d_G_join_70 : decode c_G_join 70 = .ok (.istore_n 2, 1) := by decide +kernel
theorem d_G_join_71 : decode c_G_join 71 = .ok (.iinc 3 1, 3) := by decide +kernel
theorem d_G_join_74 : decode c_G_join 74 = .ok (.goto (-70), 3) := by decide +kernel
theorem d_G_join_77 : decode c_G_join 77 = .ok (.iload_n 2, 1) := by decide +kernel
theorem d_G_join_78 : decode c_G_join 78 = .ok (.invokestatic 9, 3) := by decide +kernel
theorem d_G_join_81 : decode c_G_join 81 = .ok (.ireturn, 1) := by decide +kernel
theorem d_G_threesAsTwos_0 : decode c_G_threesAsTwos 0 = .ok (.iload_n 0, 1) := by decide +kernel
theorem d_G_threesAsTwos_1 : decode c_G_threesAsTwos 1 = .ok (.iload_n 0, 1) := by decide +kernel
theorem d_G_threesAsTwos_2 : decode c_G_threesAsTwos 2 = .ok (.iconst 1, 1) := by decide +kernel
theorem d_G_threesAsTwos_3 : decode c_G_threesAsTwos 3 = .ok (.iushr, 1) := by decide +kernel
theorem d_G_threesAsTwos_4 : decode c_G_threesAsTwos 4 = .ok (.ldc 15, 2) := by decide +kernel
theorem d_G_threesAsTwos_6 : decode c_G_threesAsTwos 6 = .ok (.iand, 1) := by decide +kernel
theorem d_G_threesAsTwos_7 : decode c_G_threesAsTwos 7 = .ok (.iconst (-1), 1) := by decide +kernel
theorem d_G_threesAsTwos_8 : decode c_G_threesAsTwos 8 = .ok (.ixor, 1) := by decide +kernel
theorem d_G_threesAsTwos_9 : decode c_G_threesAsTwos 9 = .ok (.iand, 1) := by decide +kernel
theorem d_G_threesAsTwos_10 : decode c_G_threesAsTwos 10 = .ok (.ireturn, 1) := by decide +kernel
theorem d_X_about_0 : decode c_X_about 0 = .ok (.iload_n 1, 1) := by decide +kernel
theorem d_X_about_1 : decode c_X_about 1 = .ok (.lookupswitch 43 #[(0, 27), (1, 35)], 27) := by decide +kernel
theorem d_X_about_28 : decode c_X_about 28 = .ok (.aload_n 0, 1) := by decide +kernel
theorem d_X_about_29 : decode c_X_about 29 = .ok (.getfield 12, 3) := by decide +kernel
theorem d_X_about_32 : decode c_X_about 32 = .ok (.getfield 37, 3) := by decide +kernel
theorem d_X_about_35 : decode c_X_about 35 = .ok (.ireturn, 1) := by decide +kernel
theorem d_X_about_36 : decode c_X_about 36 = .ok (.aload_n 0, 1) := by decide +kernel
theorem d_X_about_37 : decode c_X_about 37 = .ok (.getfield 12, 3) := by decide +kernel
theorem d_X_about_40 : decode c_X_about 40 = .ok (.getfield 62, 3) := by decide +kernel
theorem d_X_about_43 : decode c_X_about 43 = .ok (.ireturn, 1) := by decide +kernel
theorem d_X_about_44 : decode c_X_about 44 = .ok (.iconst (-1), 1) := by decide +kernel
theorem d_X_about_45 : decode c_X_about 45 = .ok (.ireturn, 1) := by decide +kernel
theorem d_X_function_0 : decode c_X_function 0 = .ok (.iload_n 1, 1) := by decide +kernel
theorem d_X_function_1 : decode c_X_function 1 = .ok (.iconst 1, 1) := by decide +kernel
theorem d_X_function_2 : decode c_X_function 2 = .ok (.if_icmp .lt 8, 3) := by decide +kernel
theorem d_X_function_5 : decode c_X_function 5 = .ok (.iload_n 1, 1) := by decide +kernel
theorem d_X_function_6 : decode c_X_function 6 = .ok (.iconst 4, 1) := by decide +kernel
theorem d_X_function_7 : decode c_X_function 7 = .ok (.if_icmp .le 13, 3) := by decide +kernel
theorem d_X_function_10 : decode c_X_function 10 = .ok (.new 30, 3) := by decide +kernel
theorem d_X_function_13 : decode c_X_function 13 = .ok (.dup, 1) := by decide +kernel
theorem d_X_function_14 : decode c_X_function 14 = .ok (.ldc 32, 2) := by decide +kernel
theorem d_X_function_16 : decode c_X_function 16 = .ok (.invokespecial 34, 3) := by decide +kernel
theorem d_X_function_19 : decode c_X_function 19 = .ok (.athrow, 1) := by decide +kernel
theorem d_X_function_20 : decode c_X_function 20 = .ok (.aload_n 0, 1) := by decide +kernel
theorem d_X_function_21 : decode c_X_function 21 = .ok (.getfield 12, 3) := by decide +kernel
theorem d_X_function_24 : decode c_X_function 24 = .ok (.getfield 37, 3) := by decide +kernel
theorem d_X_function_27 : decode c_X_function 27 = .ok (.bipush 10, 2) := by decide +kernel
theorem d_X_function_29 : decode c_X_function 29 = .ok (.if_icmp .lt 13, 3) := by decide +kernel
theorem d_X_function_32 : decode c_X_function 32 = .ok (.new 41, 3) := by decide +kernel
theorem d_X_function_35 : decode c_X_function 35 = .ok (.dup, 1) := by decide +kernel
theorem d_X_function_36 : decode c_X_function 36 = .ok (.ldc 43, 2) := by decide +kernel
theorem d_X_function_38 : decode c_X_function 38 = .ok (.invokespecial 45, 3) := by decide +kernel
theorem d_X_function_41 : decode c_X_function 41 = .ok (.athrow, 1) := by decide +kernel
theorem d_X_function_42 : decode c_X_function 42 = .ok (.aload_n 0, 1) := by decide +kernel
theorem d_X_function_43 : decode c_X_function 43 = .ok (.getfield 19, 3) := by decide +kernel
theorem d_X_function_46 : decode c_X_function 46 = .ok (.invokevirtual 46, 3) := by decide +kernel
theorem d_X_function_49 : decode c_X_function 49 = .ok (.aload_n 0, 1) := by decide +kernel
theorem d_X_function_50 : decode c_X_function 50 = .ok (.getfield 12, 3) := by decide +kernel
theorem d_X_function_53 : decode c_X_function 53 = .ok (.iload_n 1, 1) := by decide +kernel
theorem d_X_function_54 : decode c_X_function 54 = .ok (.invokevirtual 49, 3) := by decide +kernel
theorem d_X_function_57 : decode c_X_function 57 = .ok (.ireturn, 1) := by decide +kernel
theorem d_P_addFunction_0 : decode c_P_addFunction 0 = .ok (.aload_n 0, 1) := by decide +kernel
theorem d_P_addFunction_1 : decode c_P_addFunction 1 = .ok (.getfield 24, 3) := by decide +kernel
theorem d_P_addFunction_4 : decode c_P_addFunction 4 = .ok (.bipush 10, 2) := by decide +kernel
theorem d_P_addFunction_6 : decode c_P_addFunction 6 = .ok (.if_icmp .lt 5, 3) := by decide +kernel
theorem d_P_addFunction_9 : decode c_P_addFunction 9 = .ok (.iconst (-1), 1) := by decide +kernel
theorem d_P_addFunction_10 : decode c_P_addFunction 10 = .ok (.ireturn, 1) := by decide +kernel
theorem d_P_addFunction_11 : decode c_P_addFunction 11 = .ok (.aload_n 0, 1) := by decide +kernel
theorem d_P_addFunction_12 : decode c_P_addFunction 12 = .ok (.getfield 9, 3) := by decide +kernel
theorem d_P_addFunction_15 : decode c_P_addFunction 15 = .ok (.aload_n 0, 1) := by decide +kernel
theorem d_P_addFunction_16 : decode c_P_addFunction 16 = .ok (.getfield 24, 3) := by decide +kernel
theorem d_P_addFunction_19 : decode c_P_addFunction 19 = .ok (.iload_n 1, 1) := by decide +kernel
theorem d_P_addFunction_20 : decode c_P_addFunction 20 = .ok (.iastore, 1) := by decide +kernel
theorem d_P_addFunction_21 : decode c_P_addFunction 21 = .ok (.aload_n 0, 1) := by decide +kernel
theorem d_P_addFunction_22 : decode c_P_addFunction 22 = .ok (.dup, 1) := by decide +kernel
theorem d_P_addFunction_23 : decode c_P_addFunction 23 = .ok (.getfield 24, 3) := by decide +kernel
theorem d_P_addFunction_26 : decode c_P_addFunction 26 = .ok (.iconst 1, 1) := by decide +kernel
theorem d_P_addFunction_27 : decode c_P_addFunction 27 = .ok (.iadd, 1) := by decide +kernel
theorem d_P_addFunction_28 : decode c_P_addFunction 28 = .ok (.putfield 24, 3) := by decide +kernel
theorem d_P_addFunction_31 : decode c_P_addFunction 31 = .ok (.aload_n 0, 1) := by decide +kernel
theorem d_P_addFunction_32 : decode c_P_addFunction 32 = .ok (.getfield 24, 3) := by decide +kernel
theorem d_P_addFunction_35 : decode c_P_addFunction 35 = .ok (.iconst 1, 1) := by decide +kernel
theorem d_P_addFunction_36 : decode c_P_addFunction 36 = .ok (.isub, 1) := by decide +kernel
theorem d_P_addFunction_37 : decode c_P_addFunction 37 = .ok (.ireturn, 1) := by decide +kernel
theorem d_X_call_0 : decode c_X_call 0 = .ok (.aload_n 0, 1) := by decide +kernel
theorem d_X_call_1 : decode c_X_call 1 = .ok (.getfield 12, 3) := by decide +kernel
theorem d_X_call_4 : decode c_X_call 4 = .ok (.iload_n 1, 1) := by decide +kernel
theorem d_X_call_5 : decode c_X_call 5 = .ok (.invokevirtual 53, 3) := by decide +kernel
theorem d_X_call_8 : decode c_X_call 8 = .ok (.ifCond .eq 14, 3) := by decide +kernel
theorem d_X_call_11 : decode c_X_call 11 = .ok (.aload_n 0, 1) := by decide +kernel
theorem d_X_call_12 : decode c_X_call 12 = .ok (.getfield 12, 3) := by decide +kernel
theorem d_X_call_15 : decode c_X_call 15 = .ok (.iload_n 2, 1) := by decide +kernel
theorem d_X_call_16 : decode c_X_call 16 = .ok (.invokevirtual 53, 3) := by decide +kernel
theorem d_X_call_19 : decode c_X_call 19 = .ok (.ifCond .ne 13, 3) := by decide +kernel
theorem d_X_call_22 : decode c_X_call 22 = .ok (.new 57, 3) := by decide +kernel
theorem d_X_call_25 : decode c_X_call 25 = .ok (.dup, 1) := by decide +kernel
theorem d_X_call_26 : decode c_X_call 26 = .ok (.ldc 59, 2) := by decide +kernel
theorem d_X_call_28 : decode c_X_call 28 = .ok (.invokespecial 61, 3) := by decide +kernel
theorem d_X_call_31 : decode c_X_call 31 = .ok (.athrow, 1) := by decide +kernel
theorem d_X_call_32 : decode c_X_call 32 = .ok (.aload_n 0, 1) := by decide +kernel
theorem d_X_call_33 : decode c_X_call 33 = .ok (.getfield 12, 3) := by decide +kernel
theorem d_X_call_36 : decode c_X_call 36 = .ok (.getfield 62, 3) := by decide +kernel
theorem d_X_call_39 : decode c_X_call 39 = .ok (.bipush 20, 2) := by decide +kernel
theorem d_X_call_41 : decode c_X_call 41 = .ok (.if_icmp .lt 13, 3) := by decide +kernel
theorem d_X_call_44 : decode c_X_call 44 = .ok (.new 41, 3) := by decide +kernel
theorem d_X_call_47 : decode c_X_call 47 = .ok (.dup, 1) := by decide +kernel
theorem d_X_call_48 : decode c_X_call 48 = .ok (.ldc 65, 2) := by decide +kernel
theorem d_X_call_50 : decode c_X_call 50 = .ok (.invokespecial 45, 3) := by decide +kernel
theorem d_X_call_53 : decode c_X_call 53 = .ok (.athrow, 1) := by decide +kernel
theorem d_X_call_54 : decode c_X_call 54 = .ok (.aload_n 0, 1) := by decide +kernel
theorem d_X_call_55 : decode c_X_call 55 = .ok (.getfield 19, 3) := by decide +kernel
theorem d_X_call_58 : decode c_X_call 58 = .ok (.invokevirtual 46, 3) := by decide +kernel
theorem d_X_call_61 : decode c_X_call 61 = .ok (.aload_n 0, 1) := by decide +kernel
theorem d_X_call_62 : decode c_X_call 62 = .ok (.getfield 12, 3) := by decide +kernel
theorem d_X_call_65 : decode c_X_call 65 = .ok (.iload_n 1, 1) := by decide +kernel
theorem d_X_call_66 : decode c_X_call 66 = .ok (.iload_n 2, 1) := by decide +kernel
theorem d_X_call_67 : decode c_X_call 67 = .ok (.iload_n 3, 1) := by decide +kernel
theorem d_X_call_68 : decode c_X_call 68 = .ok (.invokevirtual 67, 3) := by decide +kernel
theorem d_X_call_71 : decode c_X_call 71 = .ok (.ireturn, 1) := by decide +kernel
theorem d_P_addCall_0 : decode c_P_addCall 0 = .ok (.aload_n 0, 1) := by decide +kernel
theorem d_P_addCall_1 : decode c_P_addCall 1 = .ok (.getfield 28, 3) := by decide +kernel
theorem d_P_addCall_4 : decode c_P_addCall 4 = .ok (.bipush 20, 2) := by decide +kernel
theorem d_P_addCall_6 : decode c_P_addCall 6 = .ok (.if_icmp .ge 19, 3) := by decide +kernel
theorem d_P_addCall_9 : decode c_P_addCall 9 = .ok (.aload_n 0, 1) := by decide +kernel
theorem d_P_addCall_10 : decode c_P_addCall 10 = .ok (.iload_n 1, 1) := by decide +kernel
theorem d_P_addCall_11 : decode c_P_addCall 11 = .ok (.invokevirtual 31, 3) := by decide +kernel
theorem d_P_addCall_14 : decode c_P_addCall 14 = .ok (.ifCond .eq 11, 3) := by decide +kernel
theorem d_P_addCall_17 : decode c_P_addCall 17 = .ok (.aload_n 0, 1) := by decide +kernel
theorem d_P_addCall_18 : decode c_P_addCall 18 = .ok (.iload_n 2, 1) := by decide +kernel
theorem d_P_addCall_19 : decode c_P_addCall 19 = .ok (.invokevirtual 31, 3) := by decide +kernel
theorem d_P_addCall_22 : decode c_P_addCall 22 = .ok (.ifCond .ne 5, 3) := by decide +kernel
theorem d_P_addCall_25 : decode c_P_addCall 25 = .ok (.iconst (-1), 1) := by decide +kernel
theorem d_P_addCall_26 : decode c_P_addCall 26 = .ok (.ireturn, 1) := by decide +kernel
theorem d_P_addCall_27 : decode c_P_addCall 27 = .ok (.aload_n 0, 1) := by decide +kernel
theorem d_P_addCall_28 : decode c_P_addCall 28 = .ok (.getfield 15, 3) := by decide +kernel
theorem d_P_addCall_31 : decode c_P_addCall 31 = .ok (.aload_n 0, 1) := by decide +kernel
theorem d_P_addCall_32 : decode c_P_addCall 32 = .ok (.getfield 28, 3) := by decide +kernel
