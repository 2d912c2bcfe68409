theorem d_M_init_0 : decode c_M_init 0 = .ok (.aload_n 0, 1) := by decide +kernel
theorem d_M_init_1 : decode c_M_init 1 = .ok (.invokespecial 1, 3) := by decide +kernel
theorem d_M_init_4 : decode c_M_init 4 = .ok (.aload_n 0, 1) := by decide +kernel
theorem d_M_init_5 : decode c_M_init 5 = .ok (.bipush 10, 2) := by decide +kernel
theorem d_M_init_7 : decode c_M_init 7 = .ok (.newarray .int, 2) := by decide +kernel
theorem d_M_init_9 : decode c_M_init 9 = .ok (.putfield 7, 3) := by decide +kernel
theorem d_M_init_12 : decode c_M_init 12 = .ok (.aload_n 0, 1) := by decide +kernel
theorem d_M_init_13 : decode c_M_init 13 = .ok (.bipush 20, 2) := by decide +kernel
theorem d_M_init_15 : decode c_M_init 15 = .ok (.newarray .int, 2) := by decide +kernel
theorem d_M_init_17 : decode c_M_init 17 = .ok (.putfield 13, 3) := by decide +kernel
theorem d_M_init_20 : decode c_M_init 20 = .ok (.aload_n 0, 1) := by decide +kernel
theorem d_M_init_21 : decode c_M_init 21 = .ok (.bipush 20, 2) := by decide +kernel
theorem d_M_init_23 : decode c_M_init 23 = .ok (.newarray .int, 2) := by decide +kernel
theorem d_M_init_25 : decode c_M_init 25 = .ok (.putfield 16, 3) := by decide +kernel
theorem d_M_init_28 : decode c_M_init 28 = .ok (.aload_n 0, 1) := by decide +kernel
theorem d_M_init_29 : decode c_M_init 29 = .ok (.bipush 20, 2) := by decide +kernel
theorem d_M_init_31 : decode c_M_init 31 = .ok (.newarray .int, 2) := by decide +kernel
theorem d_M_init_33 : decode c_M_init 33 = .ok (.putfield 19, 3) := by decide +kernel
theorem d_M_init_36 : decode c_M_init 36 = .ok (.aload_n 0, 1) := by decide +kernel
theorem d_M_init_37 : decode c_M_init 37 = .ok (.sipush 801, 3) := by decide +kernel
theorem d_M_init_40 : decode c_M_init 40 = .ok (.newarray .int, 2) := by decide +kernel
theorem d_M_init_42 : decode c_M_init 42 = .ok (.putfield 22, 3) := by decide +kernel
theorem d_M_init_45 : decode c_M_init 45 = .ok (.aload_n 0, 1) := by decide +kernel
theorem d_M_init_46 : decode c_M_init 46 = .ok (.sipush 801, 3) := by decide +kernel
theorem d_M_init_49 : decode c_M_init 49 = .ok (.newarray .int, 2) := by decide +kernel
theorem d_M_init_51 : decode c_M_init 51 = .ok (.putfield 25, 3) := by decide +kernel
theorem d_M_init_54 : decode c_M_init 54 = .ok (.aload_n 0, 1) := by decide +kernel
theorem d_M_init_55 : decode c_M_init 55 = .ok (.sipush 801, 3) := by decide +kernel
theorem d_M_init_58 : decode c_M_init 58 = .ok (.newarray .int, 2) := by decide +kernel
theorem d_M_init_60 : decode c_M_init 60 = .ok (.putfield 28, 3) := by decide +kernel
theorem d_M_init_63 : decode c_M_init 63 = .ok (.aload_n 0, 1) := by decide +kernel
theorem d_M_init_64 : decode c_M_init 64 = .ok (.sipush 801, 3) := by decide +kernel
theorem d_M_init_67 : decode c_M_init 67 = .ok (.newarray .int, 2) := by decide +kernel
theorem d_M_init_69 : decode c_M_init 69 = .ok (.putfield 31, 3) := by decide +kernel
theorem d_M_init_72 : decode c_M_init 72 = .ok (.aload_n 0, 1) := by decide +kernel
theorem d_M_init_73 : decode c_M_init 73 = .ok (.sipush 801, 3) := by decide +kernel
theorem d_M_init_76 : decode c_M_init 76 = .ok (.newarray .int, 2) := by decide +kernel
theorem d_M_init_78 : decode c_M_init 78 = .ok (.putfield 34, 3) := by decide +kernel
theorem d_M_init_81 : decode c_M_init 81 = .ok (.aload_n 0, 1) := by decide +kernel
theorem d_M_init_82 : decode c_M_init 82 = .ok (.sipush 801, 3) := by decide +kernel
theorem d_M_init_85 : decode c_M_init 85 = .ok (.newarray .int, 2) := by decide +kernel
theorem d_M_init_87 : decode c_M_init 87 = .ok (.putfield 37, 3) := by decide +kernel
theorem d_M_init_90 : decode c_M_init 90 = .ok (.aload_n 0, 1) := by decide +kernel
theorem d_M_init_91 : decode c_M_init 91 = .ok (.iconst 4, 1) := by decide +kernel
theorem d_M_init_92 : decode c_M_init 92 = .ok (.newarray .boolean, 2) := by decide +kernel
theorem d_M_init_94 : decode c_M_init 94 = .ok (.putfield 40, 3) := by decide +kernel
theorem d_M_init_97 : decode c_M_init 97 = .ok (.aload_n 0, 1) := by decide +kernel
theorem d_M_init_98 : decode c_M_init 98 = .ok (.bipush 20, 2) := by decide +kernel
theorem d_M_init_100 : decode c_M_init 100 = .ok (.newarray .boolean, 2) := by decide +kernel
theorem d_M_init_102 : decode c_M_init 102 = .ok (.putfield 44, 3) := by decide +kernel
theorem d_M_init_105 : decode c_M_init 105 = .ok (.aload_n 0, 1) := by decide +kernel
theorem d_M_init_106 : decode c_M_init 106 = .ok (.iconst 4, 1) := by decide +kernel
theorem d_M_init_107 : decode c_M_init 107 = .ok (.newarray .int, 2) := by decide +kernel
theorem d_M_init_109 : decode c_M_init 109 = .ok (.putfield 47, 3) := by decide +kernel
theorem d_M_init_112 : decode c_M_init 112 = .ok (.aload_n 0, 1) := by decide +kernel
theorem d_M_init_113 : decode c_M_init 113 = .ok (.sipush 801, 3) := by decide +kernel
theorem d_M_init_116 : decode c_M_init 116 = .ok (.newarray .int, 2) := by decide +kernel
theorem d_M_init_118 : decode c_M_init 118 = .ok (.putfield 50, 3) := by decide +kernel
theorem d_M_init_121 : decode c_M_init 121 = .ok (.return_, 1) := by decide +kernel
theorem d_M_thrown_0 : decode c_M_thrown 0 = .ok (.aload_n 0, 1) := by decide +kernel
theorem d_M_thrown_1 : decode c_M_thrown 1 = .ok (.getfield 53, 3) := by decide +kernel
theorem d_M_thrown_4 : decode c_M_thrown 4 = .ok (.ireturn, 1) := by decide +kernel
theorem d_M_function_0 : decode c_M_function 0 = .ok (.aload_n 0, 1) := by decide +kernel
theorem d_M_function_1 : decode c_M_function 1 = .ok (.iload_n 1, 1) := by decide +kernel
theorem d_M_function_2 : decode c_M_function 2 = .ok (.iconst 1, 1) := by decide +kernel
theorem d_M_function_3 : decode c_M_function 3 = .ok (.if_icmp .lt 8, 3) := by decide +kernel
theorem d_M_function_6 : decode c_M_function 6 = .ok (.iload_n 1, 1) := by decide +kernel
theorem d_M_function_7 : decode c_M_function 7 = .ok (.iconst 4, 1) := by decide +kernel
theorem d_M_function_8 : decode c_M_function 8 = .ok (.if_icmp .le 7, 3) := by decide +kernel
theorem d_M_function_11 : decode c_M_function 11 = .ok (.iconst 1, 1) := by decide +kernel
theorem d_M_function_12 : decode c_M_function 12 = .ok (.goto 17, 3) := by decide +kernel
theorem d_M_function_15 : decode c_M_function 15 = .ok (.aload_n 0, 1) := by decide +kernel
theorem d_M_function_16 : decode c_M_function 16 = .ok (.getfield 57, 3) := by decide +kernel
theorem d_M_function_19 : decode c_M_function 19 = .ok (.bipush 10, 2) := by decide +kernel
theorem d_M_function_21 : decode c_M_function 21 = .ok (.if_icmp .ne 7, 3) := by decide +kernel
theorem d_M_function_24 : decode c_M_function 24 = .ok (.iconst 2, 1) := by decide +kernel
theorem d_M_function_25 : decode c_M_function 25 = .ok (.goto 4, 3) := by decide +kernel
theorem d_M_function_28 : decode c_M_function 28 = .ok (.iconst 0, 1) := by decide +kernel
theorem d_M_function_29 : decode c_M_function 29 = .ok (.putfield 53, 3) := by decide +kernel
theorem d_M_function_32 : decode c_M_function 32 = .ok (.aload_n 0, 1) := by decide +kernel
theorem d_M_function_33 : decode c_M_function 33 = .ok (.getfield 53, 3) := by decide +kernel
theorem d_M_function_36 : decode c_M_function 36 = .ok (.ifCond .le 5, 3) := by decide +kernel
theorem d_M_function_39 : decode c_M_function 39 = .ok (.iconst 0, 1) := by decide +kernel
theorem d_M_function_40 : decode c_M_function 40 = .ok (.ireturn, 1) := by decide +kernel
theorem d_M_function_41 : decode c_M_function 41 = .ok (.aload_n 0, 1) := by decide +kernel
theorem d_M_function_42 : decode c_M_function 42 = .ok (.getfield 7, 3) := by decide +kernel
theorem d_M_function_45 : decode c_M_function 45 = .ok (.aload_n 0, 1) := by decide +kernel
theorem d_M_function_46 : decode c_M_function 46 = .ok (.getfield 57, 3) := by decide +kernel
theorem d_M_function_49 : decode c_M_function 49 = .ok (.iload_n 1, 1) := by decide +kernel
theorem d_M_function_50 : decode c_M_function 50 = .ok (.iastore, 1) := by decide +kernel
theorem d_M_function_51 : decode c_M_function 51 = .ok (.aload_n 0, 1) := by decide +kernel
theorem d_M_function_52 : decode c_M_function 52 = .ok (.dup, 1) := by decide +kernel
theorem d_M_function_53 : decode c_M_function 53 = .ok (.getfield 57, 3) := by decide +kernel
theorem d_M_function_56 : decode c_M_function 56 = .ok (.iconst 1, 1) := by decide +kernel
theorem d_M_function_57 : decode c_M_function 57 = .ok (.iadd, 1) := by decide +kernel
theorem d_M_function_58 : decode c_M_function 58 = .ok (.putfield 57, 3) := by decide +kernel
theorem d_M_function_61 : decode c_M_function 61 = .ok (.aload_n 0, 1) := by decide +kernel
theorem d_M_function_62 : decode c_M_function 62 = .ok (.getfield 57, 3) := by decide +kernel
theorem d_M_function_65 : decode c_M_function 65 = .ok (.iconst 1, 1) := by decide +kernel
theorem d_M_function_66 : decode c_M_function 66 = .ok (.isub, 1) := by decide +kernel
theorem d_M_function_67 : decode c_M_function 67 = .ok (.ireturn, 1) := by decide +kernel
theorem d_M_call_0 : decode c_M_call 0 = .ok (.aload_n 0, 1) := by decide +kernel
theorem d_M_call_1 : decode c_M_call 1 = .ok (.aload_n 0, 1) := by decide +kernel
theorem d_M_call_2 : decode c_M_call 2 = .ok (.iload_n 1, 1) := by decide +kernel
theorem d_M_call_3 : decode c_M_call 3 = .ok (.invokevirtual 60, 3) := by decide +kernel
theorem d_M_call_6 : decode c_M_call 6 = .ok (.ifCond .eq 11, 3) := by decide +kernel
theorem d_M_call_9 : decode c_M_call 9 = .ok (.aload_n 0, 1) := by decide +kernel
theorem d_M_call_10 : decode c_M_call 10 = .ok (.iload_n 2, 1) := by decide +kernel
theorem d_M_call_11 : decode c_M_call 11 = .ok (.invokevirtual 60, 3) := by decide +kernel
theorem d_M_call_14 : decode c_M_call 14 = .ok (.ifCond .ne 7, 3) := by decide +kernel
theorem d_M_call_17 : decode c_M_call 17 = .ok (.iconst 1, 1) := by decide +kernel
theorem d_M_call_18 : decode c_M_call 18 = .ok (.goto 17, 3) := by decide +kernel
theorem d_M_call_21 : decode c_M_call 21 = .ok (.aload_n 0, 1) := by decide +kernel
theorem d_M_call_22 : decode c_M_call 22 = .ok (.getfield 64, 3) := by decide +kernel
theorem d_M_call_25 : decode c_M_call 25 = .ok (.bipush 20, 2) := by decide +kernel
theorem d_M_call_27 : decode c_M_call 27 = .ok (.if_icmp .ne 7, 3) := by decide +kernel
theorem d_M_call_30 : decode c_M_call 30 = .ok (.iconst 2, 1) := by decide +kernel
theorem d_M_call_31 : decode c_M_call 31 = .ok (.goto 4, 3) := by decide +kernel
theorem d_M_call_34 : decode c_M_call 34 = .ok (.iconst 0, 1) := by decide +kernel
theorem d_M_call_35 : decode c_M_call 35 = .ok (.putfield 53, 3) := by decide +kernel
theorem d_M_call_38 : decode c_M_call 38 = .ok (.aload_n 0, 1) := by decide +kernel
theorem d_M_call_39 : decode c_M_call 39 = .ok (.getfield 53, 3) := by decide +kernel
theorem d_M_call_42 : decode c_M_call 42 = .ok (.ifCond .le 5, 3) := by decide +kernel
theorem d_M_call_45 : decode c_M_call 45 = .ok (.iconst 0, 1) := by decide +kernel
theorem d_M_call_46 : decode c_M_call 46 = .ok (.ireturn, 1) := by decide +kernel
theorem d_M_call_47 : decode c_M_call 47 = .ok (.iconst 0, 1) := by decide +kernel
theorem d_M_call_48 : decode c_M_call 48 = .ok (.istore 4, 2) := by decide +kernel
theorem d_M_call_50 : decode c_M_call 50 = .ok (.iconst 0, 1) := by decide +kernel
theorem d_M_call_51 : decode c_M_call 51 = .ok (.istore 5, 2) := by decide +kernel
theorem d_M_call_53 : decode c_M_call 53 = .ok (.iload 5, 2) := by decide +kernel
theorem d_M_call_55 : decode c_M_call 55 = .ok (.aload_n 0, 1) := by decide +kernel
theorem d_M_call_56 : decode c_M_call 56 = .ok (.getfield 7, 3) := by decide +kernel
theorem d_M_call_59 : decode c_M_call 59 = .ok (.iload_n 1, 1) := by decide +kernel
theorem d_M_call_60 : decode c_M_call 60 = .ok (.iaload, 1) := by decide +kernel
theorem d_M_call_61 : decode c_M_call 61 = .ok (.if_icmp .ge 67, 3) := by decide +kernel
theorem d_M_call_64 : decode c_M_call 64 = .ok (.iconst 0, 1) := by decide +kernel
theorem d_M_call_65 : decode c_M_call 65 = .ok (.istore 6, 2) := by decide +kernel
theorem d_M_call_67 : decode c_M_call 67 = .ok (.iload 6, 2) := by decide +kernel
theorem d_M_call_69 : decode c_M_call 69 = .ok (.aload_n 0, 1) := by decide +kernel
theorem d_M_call_70 : decode c_M_call 70 = .ok (.getfield 7, 3) := by decide +kernel
theorem d_M_call_73 : decode c_M_call 73 = .ok (.iload_n 2, 1) := by decide +kernel
theorem d_M_call_74 : decode c_M_call 74 = .ok (.iaload, 1) := by decide +kernel
theorem d_M_call_75 : decode c_M_call 75 = .ok (.if_icmp .ge 47, 3) := by decide +kernel
theorem d_M_call_78 : decode c_M_call 78 = .ok (.iload_n 3, 1) := by decide +kernel
theorem d_M_call_79 : decode c_M_call 79 = .ok (.iload 5, 2) := by decide +kernel
theorem d_M_call_81 : decode c_M_call 81 = .ok (.iload 6, 2) := by decide +kernel
theorem d_M_call_83 : decode c_M_call 83 = .ok (.invokestatic 67, 3) := by decide +kernel
theorem d_M_call_86 : decode c_M_call 86 = .ok (.istore 7, 2) := by decide +kernel
theorem d_M_call_88 : decode c_M_call 88 = .ok (.iload 4, 2) := by decide +kernel
theorem d_M_call_90 : decode c_M_call 90 = .ok (.iload 7, 2) := by decide +kernel
theorem d_M_call_92 : decode c_M_call 92 = .ok (.iconst 3, 1) := by decide +kernel
theorem d_M_call_93 : decode c_M_call 93 = .ok (.if_icmp .ne 7, 3) := by decide +kernel
theorem d_M_call_96 : decode c_M_call 96 = .ok (.iconst 2, 1) := by decide +kernel
theorem d_M_call_97 : decode c_M_call 97 = .ok (.goto 5, 3) := by decide +kernel
theorem d_M_call_100 : decode c_M_call 100 = .ok (.iload 7, 2) := by decide +kernel
theorem d_M_call_102 : decode c_M_call 102 = .ok (.bipush 8, 2) := by decide +kernel
theorem d_M_call_104 : decode c_M_call 104 = .ok (.iload 5, 2) := by decide +kernel
theorem d_M_call_106 : decode c_M_call 106 = .ok (.imul, 1) := by decide +kernel
theorem d_M_call_107 : decode c_M_call 107 = .ok (.iconst 2, 1) := by decide +kernel
theorem d_M_call_108 : decode c_M_call 108 = .ok (.iload 6, 2) := by decide +kernel
theorem d_M_call_110 : decode c_M_call 110 = .ok (.imul, 1) := by decide +kernel
theorem d_M_call_111 : decode c_M_call 111 = .ok (.iadd, 1) := by decide +kernel
theorem d_M_call_112 : decode c_M_call 112 = .ok (.ishl, 1) := by decide +kernel
theorem d_M_call_113 : decode c_M_call 113 = .ok (.ior, 1) := by decide +kernel
theorem d_M_call_114 : decode c_M_call 114 = .ok (.istore 4, 2) := by decide +kernel
theorem d_M_call_116 : decode c_M_call 116 = .ok (.iinc 6 1, 3) := by decide +kernel
theorem d_M_call_119 : decode c_M_call 119 = .ok (.goto (-52), 3) := by decide +kernel
theorem d_M_call_122 : decode c_M_call 122 = .ok (.iinc 5 1, 3) := by decide +kernel
theorem d_M_call_125 : decode c_M_call 125 = .ok (.goto (-72), 3) := by decide +kernel
theorem d_M_call_128 : decode c_M_call 128 = .ok (.aload_n 0, 1) := by decide +kernel
theorem d_M_call_129 : decode c_M_call 129 = .ok (.getfield 13, 3) := by decide +kernel
theorem d_M_call_132 : decode c_M_call 132 = .ok (.aload_n 0, 1) := by decide +kernel
theorem d_M_call_133 : decode c_M_call 133 = .ok (.getfield 64, 3) := by decide +kernel
theorem d_M_call_136 : decode c_M_call 136 = .ok (.iload_n 1, 1) := by decide +kernel
theorem d_M_call_137 : decode c_M_call 137 = .ok (.iastore, 1) := by decide +kernel
theorem d_M_call_138 : decode c_M_call 138 = .ok (.aload_n 0, 1) := by decide +kernel
theorem d_M_call_139 : decode c_M_call 139 = .ok (.getfield 16, 3) := by decide +kernel
theorem d_M_call_142 : decode c_M_call 142 = .ok (.aload_n 0, 1) := by decide +kernel
theorem d_M_call_143 : decode c_M_call 143 = .ok (.getfield 64, 3) := by decide +kernel
theorem d_M_call_146 : decode c_M_call 146 = .ok (.iload_n 2, 1) := by decide +kernel
theorem d_M_call_147 : decode c_M_call 147 = .ok (.iastore, 1) := by decide +kernel
theorem d_M_call_148 : decode c_M_call 148 = .ok (.aload_n 0, 1) := by decide +kernel
theorem d_M_call_149 : decode c_M_call 149 = .ok (.getfield 19, 3) := by decide +kernel
theorem d_M_call_152 : decode c_M_call 152 = .ok (.aload_n 0, 1) := by decide +kernel
theorem d_M_call_153 : decode c_M_call 153 = .ok (.getfield 64, 3) := by decide +kernel
theorem d_M_call_156 : decode c_M_call 156 = .ok (.iload 4, 2) := by decide +kernel
theorem d_M_call_158 : decode c_M_call 158 = .ok (.iastore, 1) := by decide +kernel
theorem d_M_call_159 : decode c_M_call 159 = .ok (.aload_n 0, 1) := by decide +kernel
theorem d_M_call_160 : decode c_M_call 160 = .ok (.dup, 1) := by decide +kernel
theorem d_M_call_161 : decode c_M_call 161 = .ok (.getfield 64, 3) := by decide +kernel
theorem d_M_call_164 : decode c_M_call 164 = .ok (.iconst 1, 1) := by decide +kernel
theorem d_M_call_165 : decode c_M_call 165 = .ok (.iadd, 1) := by decide +kernel
theorem d_M_call_166 : decode c_M_call 166 = .ok (.putfield 64, 3) := by decide +kernel
theorem d_M_call_169 : decode c_M_call 169 = .ok (.aload_n 0, 1) := by decide +kernel
theorem d_M_call_170 : decode c_M_call 170 = .ok (.getfield 64, 3) := by decide +kernel
theorem d_M_call_173 : decode c_M_call 173 = .ok (.iconst 1, 1) := by decide +kernel
theorem d_M_call_174 : decode c_M_call 174 = .ok (.isub, 1) := by decide +kernel
theorem d_M_call_175 : decode c_M_call 175 = .ok (.ireturn, 1) := by decide +kernel
theorem d_M_isFunction_0 : decode c_M_isFunction 0 = .ok (.iload_n 1, 1) := by decide +kernel
theorem d_M_isFunction_1 : decode c_M_isFunction 1 = .ok (.ifCond .lt 15, 3) := by decide +kernel
theorem d_M_isFunction_4 : decode c_M_isFunction 4 = .ok (.iload_n 1, 1) := by decide +kernel
theorem d_M_isFunction_5 : decode c_M_isFunction 5 = .ok (.aload_n 0, 1) := by decide +kernel
theorem d_M_isFunction_6 : decode c_M_isFunction 6 = .ok (.getfield 57, 3) := by decide +kernel
theorem d_M_isFunction_9 : decode c_M_isFunction 9 = .ok (.if_icmp .ge 7, 3) := by decide +kernel
theorem d_M_isFunction_12 : decode c_M_isFunction 12 = .ok (.iconst 1, 1) := by decide +kernel
theorem d_M_isFunction_13 : decode c_M_isFunction 13 = .ok (.goto 4, 3) := by decide +kernel
theorem d_M_isFunction_16 : decode c_M_isFunction 16 = .ok (.iconst 0, 1) := by decide +kernel
theorem d_M_isFunction_17 : decode c_M_isFunction 17 = .ok (.ireturn, 1) := by decide +kernel
theorem d_M_at_0 : decode c_M_at 0 = .ok (.iload_n 0, 1) := by decide +kernel
theorem d_M_at_1 : decode c_M_at 1 = .ok (.bipush 8, 2) := by decide +kernel
theorem d_M_at_3 : decode c_M_at 3 = .ok (.iload_n 1, 1) := by decide +kernel
theorem d_M_at_4 : decode c_M_at 4 = .ok (.imul, 1) := by decide +kernel
theorem d_M_at_5 : decode c_M_at 5 = .ok (.iconst 2, 1) := by decide +kernel
theorem d_M_at_6 : decode c_M_at 6 = .ok (.iload_n 2, 1) := by decide +kernel
theorem d_M_at_7 : decode c_M_at 7 = .ok (.imul, 1) := by decide +kernel
theorem d_M_at_8 : decode c_M_at 8 = .ok (.iadd, 1) := by decide +kernel
theorem d_M_at_9 : decode c_M_at 9 = .ok (.iushr, 1) := by decide +kernel
theorem d_M_at_10 : decode c_M_at 10 = .ok (.iconst 3, 1) := by decide +kernel
theorem d_M_at_11 : decode c_M_at 11 = .ok (.iand, 1) := by decide +kernel
theorem d_M_at_12 : decode c_M_at 12 = .ok (.ireturn, 1) := by decide +kernel
theorem d_M_undo_0 : decode c_M_undo 0 = .ok (.aload_n 0, 1) := by decide +kernel
theorem d_M_undo_1 : decode c_M_undo 1 = .ok (.iconst 0, 1) := by decide +kernel
theorem d_M_undo_2 : decode c_M_undo 2 = .ok (.putfield 53, 3) := by decide +kernel
theorem d_M_undo_5 : decode c_M_undo 5 = .ok (.aload_n 0, 1) := by decide +kernel
theorem d_M_undo_6 : decode c_M_undo 6 = .ok (.getfield 64, 3) := by decide +kernel
theorem d_M_undo_9 : decode c_M_undo 9 = .ok (.ifCond .ne 5, 3) := by decide +kernel
theorem d_M_undo_12 : decode c_M_undo 12 = .ok (.iconst 0, 1) := by decide +kernel
theorem d_M_undo_13 : decode c_M_undo 13 = .ok (.ireturn, 1) := by decide +kernel
theorem d_M_undo_14 : decode c_M_undo 14 = .ok (.aload_n 0, 1) := by decide +kernel
theorem d_M_undo_15 : decode c_M_undo 15 = .ok (.dup, 1) := by decide +kernel
theorem d_M_undo_16 : decode c_M_undo 16 = .ok (.getfield 64, 3) := by decide +kernel
theorem d_M_undo_19 : decode c_M_undo 19 = .ok (.iconst 1, 1) := by decide +kernel
theorem d_M_undo_20 : decode c_M_undo 20 = .ok (.isub, 1) := by decide +kernel
theorem d_M_undo_21 : decode c_M_undo 21 = .ok (.putfield 64, 3) := by decide +kernel
theorem d_M_undo_24 : decode c_M_undo 24 = .ok (.iconst 1, 1) := by decide +kernel
theorem d_M_undo_25 : decode c_M_undo 25 = .ok (.ireturn, 1) := by decide +kernel
theorem d_M_told_0 : decode c_M_told 0 = .ok (.aload_n 0, 1) := by decide +kernel
theorem d_M_told_1 : decode c_M_told 1 = .ok (.iconst 0, 1) := by decide +kernel
theorem d_M_told_2 : decode c_M_told 2 = .ok (.putfield 53, 3) := by decide +kernel
theorem d_M_told_5 : decode c_M_told 5 = .ok (.iload_n 1, 1) := by decide +kernel
theorem d_M_told_6 : decode c_M_told 6 = .ok (.ifCond .lt 11, 3) := by decide +kernel
theorem d_M_told_9 : decode c_M_told 9 = .ok (.iload_n 1, 1) := by decide +kernel
theorem d_M_told_10 : decode c_M_told 10 = .ok (.aload_n 0, 1) := by decide +kernel
theorem d_M_told_11 : decode c_M_told 11 = .ok (.getfield 64, 3) := by decide +kernel
theorem d_M_told_14 : decode c_M_told 14 = .ok (.if_icmp .lt 5, 3) := by decide +kernel
theorem d_M_told_17 : decode c_M_told 17 = .ok (.iconst (-1), 1) := by decide +kernel
theorem d_M_told_18 : decode c_M_told 18 = .ok (.ireturn, 1) := by decide +kernel
theorem d_M_told_19 : decode c_M_told 19 = .ok (.iload_n 2, 1) := by decide +kernel
theorem d_M_told_20 : decode c_M_told 20 = .ok (.ifCond .ne 12, 3) := by decide +kernel
theorem d_M_told_23 : decode c_M_told 23 = .ok (.aload_n 0, 1) := by decide +kernel
theorem d_M_told_24 : decode c_M_told 24 = .ok (.getfield 13, 3) := by decide +kernel
theorem d_M_told_27 : decode c_M_told 27 = .ok (.iload_n 1, 1) := by decide +kernel
theorem d_M_told_28 : decode c_M_told 28 = .ok (.iaload, 1) := by decide +kernel
theorem d_M_told_29 : decode c_M_told 29 = .ok (.goto 32, 3) := by decide +kernel
theorem d_M_told_32 : decode c_M_told 32 = .ok (.iload_n 2, 1) := by decide +kernel
theorem d_M_told_33 : decode c_M_told 33 = .ok (.iconst 1, 1) := by decide +kernel
theorem d_M_told_34 : decode c_M_told 34 = .ok (.if_icmp .ne 12, 3) := by decide +kernel
theorem d_M_told_37 : decode c_M_told 37 = .ok (.aload_n 0, 1) := by decide +kernel
theorem d_M_told_38 : decode c_M_told 38 = .ok (.getfield 16, 3) := by decide +kernel
theorem d_M_told_41 : decode c_M_told 41 = .ok (.iload_n 1, 1) := by decide +kernel
theorem d_M_told_42 : decode c_M_told 42 = .ok (.iaload, 1) := by decide +kernel
theorem d_M_told_43 : decode c_M_told 43 = .ok (.goto 18, 3) := by decide +kernel
theorem d_M_told_46 : decode c_M_told 46 = .ok (.iload_n 2, 1) := by decide +kernel
theorem d_M_told_47 : decode c_M_told 47 = .ok (.iconst 2, 1) := by decide +kernel
theorem d_M_told_48 : decode c_M_told 48 = .ok (.if_icmp .ne 12, 3) := by decide +kernel
theorem d_M_told_51 : decode c_M_told 51 = .ok (.aload_n 0, 1) := by decide +kernel
theorem d_M_told_52 : decode c_M_told 52 = .ok (.getfield 19, 3) := by decide +kernel
theorem d_M_told_55 : decode c_M_told 55 = .ok (.iload_n 1, 1) := by decide +kernel
theorem d_M_told_56 : decode c_M_told 56 = .ok (.iaload, 1) := by decide +kernel
theorem d_M_told_57 : decode c_M_told 57 = .ok (.goto 4, 3) := by decide +kernel
theorem d_M_told_60 : decode c_M_told 60 = .ok (.iconst (-1), 1) := by decide +kernel
theorem d_M_told_61 : decode c_M_told 61 = .ok (.ireturn, 1) := by decide +kernel
theorem d_M_graphs_0 : decode c_M_graphs 0 = .ok (.aload_n 0, 1) := by decide +kernel
theorem d_M_graphs_1 : decode c_M_graphs 1 = .ok (.iload_n 1, 1) := by decide +kernel
theorem d_M_graphs_2 : decode c_M_graphs 2 = .ok (.invokevirtual 60, 3) := by decide +kernel
theorem d_M_graphs_5 : decode c_M_graphs 5 = .ok (.ifCond .eq 11, 3) := by decide +kernel
theorem d_M_graphs_8 : decode c_M_graphs 8 = .ok (.aload_n 0, 1) := by decide +kernel
theorem d_M_graphs_9 : decode c_M_graphs 9 = .ok (.iload_n 2, 1) := by decide +kernel
theorem d_M_graphs_10 : decode c_M_graphs 10 = .ok (.invokevirtual 60, 3) := by decide +kernel
theorem d_M_graphs_13 : decode c_M_graphs 13 = .ok (.ifCond .ne 7, 3) := by decide +kernel
theorem d_M_graphs_16 : decode c_M_graphs 16 = .ok (.iconst 1, 1) := by decide +kernel
theorem d_M_graphs_17 : decode c_M_graphs 17 = .ok (.goto 4, 3) := by decide +kernel
theorem d_M_graphs_20 : decode c_M_graphs 20 = .ok (.iconst 0, 1) := by decide +kernel
theorem d_M_graphs_21 : decode c_M_graphs 21 = .ok (.istore_n 3, 1) := by decide +kernel
theorem d_M_graphs_22 : decode c_M_graphs 22 = .ok (.aload_n 0, 1) := by decide +kernel
theorem d_M_graphs_23 : decode c_M_graphs 23 = .ok (.iconst 0, 1) := by decide +kernel
theorem d_M_graphs_24 : decode c_M_graphs 24 = .ok (.iload_n 3, 1) := by decide +kernel
theorem d_M_graphs_25 : decode c_M_graphs 25 = .ok (.invokevirtual 85, 3) := by decide +kernel
theorem d_M_graphs_28 : decode c_M_graphs 28 = .ok (.ifCond .eq 26, 3) := by decide +kernel
theorem d_M_graphs_31 : decode c_M_graphs 31 = .ok (.aload_n 0, 1) := by decide +kernel
theorem d_M_graphs_32 : decode c_M_graphs 32 = .ok (.getfield 53, 3) := by decide +kernel
theorem d_M_graphs_35 : decode c_M_graphs 35 = .ok (.iconst 2, 1) := by decide +kernel
theorem d_M_graphs_36 : decode c_M_graphs 36 = .ok (.if_icmp .ne 8, 3) := by decide +kernel
theorem d_M_graphs_39 : decode c_M_graphs 39 = .ok (.aload_n 0, 1) := by decide +kernel
theorem d_M_graphs_40 : decode c_M_graphs 40 = .ok (.iconst 1, 1) := by decide +kernel
theorem d_M_graphs_41 : decode c_M_graphs 41 = .ok (.putfield 53, 3) := by decide +kernel
theorem d_M_graphs_44 : decode c_M_graphs 44 = .ok (.iload_n 3, 1) := by decide +kernel
theorem d_M_graphs_45 : decode c_M_graphs 45 = .ok (.ifCond .eq 7, 3) := by decide +kernel
theorem d_M_graphs_48 : decode c_M_graphs 48 = .ok (.iconst (-1), 1) := by decide +kernel
theorem d_M_graphs_49 : decode c_M_graphs 49 = .ok (.goto 4, 3) := by decide +kernel
theorem d_M_graphs_52 : decode c_M_graphs 52 = .ok (.iconst 0, 1) := by decide +kernel
theorem d_M_graphs_53 : decode c_M_graphs 53 = .ok (.ireturn, 1) := by decide +kernel
theorem d_M_graphs_54 : decode c_M_graphs 54 = .ok (.aload_n 0, 1) := by decide +kernel
theorem d_M_graphs_55 : decode c_M_graphs 55 = .ok (.iload_n 1, 1) := by decide +kernel
theorem d_M_graphs_56 : decode c_M_graphs 56 = .ok (.iload_n 2, 1) := by decide +kernel
theorem d_M_graphs_57 : decode c_M_graphs 57 = .ok (.invokevirtual 89, 3) := by decide +kernel
theorem d_M_graphs_60 : decode c_M_graphs 60 = .ok (.ireturn, 1) := by decide +kernel
theorem d_M_refused_0 : decode c_M_refused 0 = .ok (.aload_n 0, 1) := by decide +kernel
theorem d_M_refused_1 : decode c_M_refused 1 = .ok (.iload_n 1, 1) := by decide +kernel
theorem d_M_refused_2 : decode c_M_refused 2 = .ok (.ifCond .eq 7, 3) := by decide +kernel
theorem d_M_refused_5 : decode c_M_refused 5 = .ok (.iconst 1, 1) := by decide +kernel
theorem d_M_refused_6 : decode c_M_refused 6 = .ok (.goto 4, 3) := by decide +kernel
theorem d_M_refused_9 : decode c_M_refused 9 = .ok (.iconst 0, 1) := by decide +kernel
theorem d_M_refused_10 : decode c_M_refused 10 = .ok (.putfield 53, 3) := by decide +kernel
theorem d_M_refused_13 : decode c_M_refused 13 = .ok (.iload_n 1, 1) := by decide +kernel
theorem d_M_refused_14 : decode c_M_refused 14 = .ok (.ifCond .ne 7, 3) := by decide +kernel
theorem d_M_refused_17 : decode c_M_refused 17 = .ok (.iload_n 2, 1) := by decide +kernel
theorem d_M_refused_18 : decode c_M_refused 18 = .ok (.ifCond .eq 5, 3) := by decide +kernel
theorem d_M_refused_21 : decode c_M_refused 21 = .ok (.iconst 1, 1) := by decide +kernel
theorem d_M_refused_22 : decode c_M_refused 22 = .ok (.ireturn, 1) := by decide +kernel
theorem d_M_refused_23 : decode c_M_refused 23 = .ok (.aload_n 0, 1) := by decide +kernel
theorem d_M_refused_24 : decode c_M_refused 24 = .ok (.iconst (-1), 1) := by decide +kernel
theorem d_M_refused_25 : decode c_M_refused 25 = .ok (.invokevirtual 82, 3) := by decide +kernel
theorem d_M_refused_28 : decode c_M_refused 28 = .ok (.ifCond .ne 8, 3) := by decide +kernel
theorem d_M_refused_31 : decode c_M_refused 31 = .ok (.aload_n 0, 1) := by decide +kernel
theorem d_M_refused_32 : decode c_M_refused 32 = .ok (.iconst 2, 1) := by decide +kernel
theorem d_M_refused_33 : decode c_M_refused 33 = .ok (.putfield 53, 3) := by decide +kernel
theorem d_M_refused_36 : decode c_M_refused 36 = .ok (.aload_n 0, 1) := by decide +kernel
theorem d_M_refused_37 : decode c_M_refused 37 = .ok (.getfield 53, 3) := by decide +kernel
theorem d_M_refused_40 : decode c_M_refused 40 = .ok (.ifCond .le 7, 3) := by decide +kernel
theorem d_M_refused_43 : decode c_M_refused 43 = .ok (.iconst 1, 1) := by decide +kernel
theorem d_M_refused_44 : decode c_M_refused 44 = .ok (.goto 4, 3) := by decide +kernel
theorem d_M_refused_47 : decode c_M_refused 47 = .ok (.iconst 0, 1) := by decide +kernel
theorem d_M_refused_48 : decode c_M_refused 48 = .ok (.ireturn, 1) := by decide +kernel
theorem d_M_find_0 : decode c_M_find 0 = .ok (.aload_n 0, 1) := by decide +kernel
theorem d_M_find_1 : decode c_M_find 1 = .ok (.iconst 0, 1) := by decide +kernel
theorem d_M_find_2 : decode c_M_find 2 = .ok (.putfield 71, 3) := by decide +kernel
theorem d_M_find_5 : decode c_M_find 5 = .ok (.iconst 0, 1) := by decide +kernel
theorem d_M_find_6 : decode c_M_find 6 = .ok (.istore_n 2, 1) := by decide +kernel
theorem d_M_find_7 : decode c_M_find 7 = .ok (.iload_n 2, 1) := by decide +kernel
theorem d_M_find_8 : decode c_M_find 8 = .ok (.aload_n 0, 1) := by decide +kernel
theorem d_M_find_9 : decode c_M_find 9 = .ok (.getfield 64, 3) := by decide +kernel
theorem d_M_find_12 : decode c_M_find 12 = .ok (.if_icmp .ge 48, 3) := by decide +kernel
theorem d_M_find_15 : decode c_M_find 15 = .ok (.iload_n 1, 1) := by decide +kernel
theorem d_M_find_16 : decode c_M_find 16 = .ok (.iconst (-1), 1) := by decide +kernel
theorem d_M_find_17 : decode c_M_find 17 = .ok (.if_icmp .eq 13, 3) := by decide +kernel
theorem d_M_find_20 : decode c_M_find 20 = .ok (.aload_n 0, 1) := by decide +kernel
theorem d_M_find_21 : decode c_M_find 21 = .ok (.getfield 13, 3) := by decide +kernel
theorem d_M_find_24 : decode c_M_find 24 = .ok (.iload_n 2, 1) := by decide +kernel
theorem d_M_find_25 : decode c_M_find 25 = .ok (.iaload, 1) := by decide +kernel
theorem d_M_find_26 : decode c_M_find 26 = .ok (.iload_n 1, 1) := by decide +kernel
theorem d_M_find_27 : decode c_M_find 27 = .ok (.if_icmp .ne 27, 3) := by decide +kernel
theorem d_M_find_30 : decode c_M_find 30 = .ok (.aload_n 0, 1) := by decide +kernel
theorem d_M_find_31 : decode c_M_find 31 = .ok (.aload_n 0, 1) := by decide +kernel
theorem d_M_find_32 : decode c_M_find 32 = .ok (.getfield 13, 3) := by decide +kernel
theorem d_M_find_35 : decode c_M_find 35 = .ok (.iload_n 2, 1) := by decide +kernel
theorem d_M_find_36 : decode c_M_find 36 = .ok (.iaload, 1) := by decide +kernel
theorem d_M_find_37 : decode c_M_find 37 = .ok (.aload_n 0, 1) := by decide +kernel
theorem d_M_find_38 : decode c_M_find 38 = .ok (.getfield 16, 3) := by decide +kernel
theorem d_M_find_41 : decode c_M_find 41 = .ok (.iload_n 2, 1) := by decide +kernel
theorem d_M_find_42 : decode c_M_find 42 = .ok (.iaload, 1) := by decide +kernel
theorem d_M_find_43 : decode c_M_find 43 = .ok (.aload_n 0, 1) := by decide +kernel
theorem d_M_find_44 : decode c_M_find 44 = .ok (.getfield 19, 3) := by decide +kernel
theorem d_M_find_47 : decode c_M_find 47 = .ok (.iload_n 2, 1) := by decide +kernel
theorem d_M_find_48 : decode c_M_find 48 = .ok (.iaload, 1) := by decide +kernel
theorem d_M_find_49 : decode c_M_find 49 = .ok (.iconst (-1), 1) := by decide +kernel
theorem d_M_find_50 : decode c_M_find 50 = .ok (.iload_n 2, 1) := by decide +kernel
theorem d_M_find_51 : decode c_M_find 51 = .ok (.invokevirtual 74, 3) := by decide +kernel
theorem d_M_find_54 : decode c_M_find 54 = .ok (.iinc 2 1, 3) := by decide +kernel
theorem d_M_find_57 : decode c_M_find 57 = .ok (.goto (-50), 3) := by decide +kernel
theorem d_M_find_60 : decode c_M_find 60 = .ok (.iconst 0, 1) := by decide +kernel
theorem d_M_find_61 : decode c_M_find 61 = .ok (.istore_n 2, 1) := by decide +kernel
theorem d_M_find_62 : decode c_M_find 62 = .ok (.iload_n 2, 1) := by decide +kernel
theorem d_M_find_63 : decode c_M_find 63 = .ok (.aload_n 0, 1) := by decide +kernel
theorem d_M_find_64 : decode c_M_find 64 = .ok (.getfield 71, 3) := by decide +kernel
theorem d_M_find_67 : decode c_M_find 67 = .ok (.if_icmp .ge 83, 3) := by decide +kernel
theorem d_M_find_70 : decode c_M_find 70 = .ok (.aload_n 0, 1) := by decide +kernel
theorem d_M_find_71 : decode c_M_find 71 = .ok (.getfield 71, 3) := by decide +kernel
theorem d_M_find_74 : decode c_M_find 74 = .ok (.sipush 800, 3) := by decide +kernel
theorem d_M_find_77 : decode c_M_find 77 = .ok (.if_icmp .gt 73, 3) := by decide +kernel
theorem d_M_find_80 : decode c_M_find 80 = .ok (.iconst 0, 1) := by decide +kernel
theorem d_M_find_81 : decode c_M_find 81 = .ok (.istore_n 3, 1) := by decide +kernel
theorem d_M_find_82 : decode c_M_find 82 = .ok (.iload_n 3, 1) := by decide +kernel
theorem d_M_find_83 : decode c_M_find 83 = .ok (.aload_n 0, 1) := by decide +kernel
theorem d_M_find_84 : decode c_M_find 84 = .ok (.getfield 64, 3) := by decide +kernel
theorem d_M_find_87 : decode c_M_find 87 = .ok (.if_icmp .ge 57, 3) := by decide +kernel
theorem d_M_find_90 : decode c_M_find 90 = .ok (.aload_n 0, 1) := by decide +kernel
theorem d_M_find_91 : decode c_M_find 91 = .ok (.getfield 13, 3) := by decide +kernel
theorem d_M_find_94 : decode c_M_find 94 = .ok (.iload_n 3, 1) := by decide +kernel
theorem d_M_find_95 : decode c_M_find 95 = .ok (.iaload, 1) := by decide +kernel
theorem d_M_find_96 : decode c_M_find 96 = .ok (.aload_n 0, 1) := by decide +kernel
theorem d_M_find_97 : decode c_M_find 97 = .ok (.getfield 25, 3) := by decide +kernel
theorem d_M_find_100 : decode c_M_find 100 = .ok (.iload_n 2, 1) := by decide +kernel
theorem d_M_find_101 : decode c_M_find 101 = .ok (.iaload, 1) := by decide +kernel
theorem d_M_find_102 : decode c_M_find 102 = .ok (.if_icmp .ne 36, 3) := by decide +kernel
theorem d_M_find_105 : decode c_M_find 105 = .ok (.aload_n 0, 1) := by decide +kernel
theorem d_M_find_106 : decode c_M_find 106 = .ok (.aload_n 0, 1) := by decide +kernel
theorem d_M_find_107 : decode c_M_find 107 = .ok (.getfield 22, 3) := by decide +kernel
theorem d_M_find_110 : decode c_M_find 110 = .ok (.iload_n 2, 1) := by decide +kernel
theorem d_M_find_111 : decode c_M_find 111 = .ok (.iaload, 1) := by decide +kernel
theorem d_M_find_112 : decode c_M_find 112 = .ok (.aload_n 0, 1) := by decide +kernel
theorem d_M_find_113 : decode c_M_find 113 = .ok (.getfield 16, 3) := by decide +kernel
theorem d_M_find_116 : decode c_M_find 116 = .ok (.iload_n 3, 1) := by decide +kernel
theorem d_M_find_117 : decode c_M_find 117 = .ok (.iaload, 1) := by decide +kernel
theorem d_M_find_118 : decode c_M_find 118 = .ok (.aload_n 0, 1) := by decide +kernel
theorem d_M_find_119 : decode c_M_find 119 = .ok (.getfield 28, 3) := by decide +kernel
theorem d_M_find_122 : decode c_M_find 122 = .ok (.iload_n 2, 1) := by decide +kernel
theorem d_M_find_123 : decode c_M_find 123 = .ok (.iaload, 1) := by decide +kernel
theorem d_M_find_124 : decode c_M_find 124 = .ok (.aload_n 0, 1) := by decide +kernel
theorem d_M_find_125 : decode c_M_find 125 = .ok (.getfield 19, 3) := by decide +kernel
theorem d_M_find_128 : decode c_M_find 128 = .ok (.iload_n 3, 1) := by decide +kernel
theorem d_M_find_129 : decode c_M_find 129 = .ok (.iaload, 1) := by decide +kernel
theorem d_M_find_130 : decode c_M_find 130 = .ok (.invokestatic 78, 3) := by decide +kernel
theorem d_M_find_133 : decode c_M_find 133 = .ok (.iload_n 2, 1) := by decide +kernel
theorem d_M_find_134 : decode c_M_find 134 = .ok (.iload_n 3, 1) := by decide +kernel
theorem d_M_find_135 : decode c_M_find 135 = .ok (.invokevirtual 74, 3) := by decide +kernel
theorem d_M_find_138 : decode c_M_find 138 = .ok (.iinc 3 1, 3) := by decide +kernel
theorem d_M_find_141 : decode c_M_find 141 = .ok (.goto (-59), 3) := by decide +kernel
theorem d_M_find_144 : decode c_M_find 144 = .ok (.iinc 2 1, 3) := by decide +kernel
theorem d_M_find_147 : decode c_M_find 147 = .ok (.goto (-85), 3) := by decide +kernel
theorem d_M_find_150 : decode c_M_find 150 = .ok (.aload_n 0, 1) := by decide +kernel
theorem d_M_find_151 : decode c_M_find 151 = .ok (.getfield 71, 3) := by decide +kernel
theorem d_M_find_154 : decode c_M_find 154 = .ok (.sipush 800, 3) := by decide +kernel
theorem d_M_find_157 : decode c_M_find 157 = .ok (.if_icmp .gt 7, 3) := by decide +kernel
theorem d_M_find_160 : decode c_M_find 160 = .ok (.iconst 1, 1) := by decide +kernel
theorem d_M_find_161 : decode c_M_find 161 = .ok (.goto 4, 3) := by decide +kernel
theorem d_M_find_164 : decode c_M_find 164 = .ok (.iconst 0, 1) := by decide +kernel
theorem d_M_find_165 : decode c_M_find 165 = .ok (.ireturn, 1) := by decide +kernel
theorem d_M_add_0 : decode c_M_add 0 = .ok (.iconst 0, 1) := by decide +kernel
theorem d_M_add_1 : decode c_M_add 1 = .ok (.istore 6, 2) := by decide +kernel
theorem d_M_add_3 : decode c_M_add 3 = .ok (.iload 6, 2) := by decide +kernel
theorem d_M_add_5 : decode c_M_add 5 = .ok (.aload_n 0, 1) := by decide +kernel
theorem d_M_add_6 : decode c_M_add 6 = .ok (.getfield 71, 3) := by decide +kernel
theorem d_M_add_9 : decode c_M_add 9 = .ok (.if_icmp .ge 42, 3) := by decide +kernel
theorem d_M_add_12 : decode c_M_add 12 = .ok (.aload_n 0, 1) := by decide +kernel
theorem d_M_add_13 : decode c_M_add 13 = .ok (.getfield 22, 3) := by decide +kernel
theorem d_M_add_16 : decode c_M_add 16 = .ok (.iload 6, 2) := by decide +kernel
theorem d_M_add_18 : decode c_M_add 18 = .ok (.iaload, 1) := by decide +kernel
theorem d_M_add_19 : decode c_M_add 19 = .ok (.iload_n 1, 1) := by decide +kernel
theorem d_M_add_20 : decode c_M_add 20 = .ok (.if_icmp .ne 25, 3) := by decide +kernel
theorem d_M_add_23 : decode c_M_add 23 = .ok (.aload_n 0, 1) := by decide +kernel
theorem d_M_add_24 : decode c_M_add 24 = .ok (.getfield 25, 3) := by decide +kernel
theorem d_M_add_27 : decode c_M_add 27 = .ok (.iload 6, 2) := by decide +kernel
theorem d_M_add_29 : decode c_M_add 29 = .ok (.iaload, 1) := by decide +kernel
theorem d_M_add_30 : decode c_M_add 30 = .ok (.iload_n 2, 1) := by decide +kernel
theorem d_M_add_31 : decode c_M_add 31 = .ok (.if_icmp .ne 14, 3) := by decide +kernel
theorem d_M_add_34 : decode c_M_add 34 = .ok (.aload_n 0, 1) := by decide +kernel
theorem d_M_add_35 : decode c_M_add 35 = .ok (.getfield 28, 3) := by decide +kernel
theorem d_M_add_38 : decode c_M_add 38 = .ok (.iload 6, 2) := by decide +kernel
theorem d_M_add_40 : decode c_M_add 40 = .ok (.iaload, 1) := by decide +kernel
theorem d_M_add_41 : decode c_M_add 41 = .ok (.iload_n 3, 1) := by decide +kernel
theorem d_M_add_42 : decode c_M_add 42 = .ok (.if_icmp .eq 9, 3) := by decide +kernel
theorem d_M_add_45 : decode c_M_add 45 = .ok (.iinc 6 1, 3) := by decide +kernel
theorem d_M_add_48 : decode c_M_add 48 = .ok (.goto (-45), 3) := by decide +kernel
theorem d_M_add_51 : decode c_M_add 51 = .ok (.iload 6, 2) := by decide +kernel
theorem d_M_add_53 : decode c_M_add 53 = .ok (.aload_n 0, 1) := by decide +kernel
theorem d_M_add_54 : decode c_M_add 54 = .ok (.getfield 71, 3) := by decide +kernel
theorem d_M_add_57 : decode c_M_add 57 = .ok (.if_icmp .lt 13, 3) := by decide +kernel
theorem d_M_add_60 : decode c_M_add 60 = .ok (.aload_n 0, 1) := by decide +kernel
theorem d_M_add_61 : decode c_M_add 61 = .ok (.getfield 71, 3) := by decide +kernel
theorem d_M_add_64 : decode c_M_add 64 = .ok (.sipush 800, 3) := by decide +kernel
theorem d_M_add_67 : decode c_M_add 67 = .ok (.if_icmp .le 4, 3) := by decide +kernel
theorem d_M_add_70 : decode c_M_add 70 = .ok (.return_, 1) := by decide +kernel
theorem d_M_add_71 : decode c_M_add 71 = .ok (.aload_n 0, 1) := by decide +kernel
theorem d_M_add_72 : decode c_M_add 72 = .ok (.getfield 22, 3) := by decide +kernel
theorem d_M_add_75 : decode c_M_add 75 = .ok (.iload 6, 2) := by decide +kernel
theorem d_M_add_77 : decode c_M_add 77 = .ok (.iload_n 1, 1) := by decide +kernel
theorem d_M_add_78 : decode c_M_add 78 = .ok (.iastore, 1) := by decide +kernel
theorem d_M_add_79 : decode c_M_add 79 = .ok (.aload_n 0, 1) := by decide +kernel
theorem d_M_add_80 : decode c_M_add 80 = .ok (.getfield 25, 3) := by decide +kernel
theorem d_M_add_83 : decode c_M_add 83 = .ok (.iload 6, 2) := by decide +kernel
theorem d_M_add_85 : decode c_M_add 85 = .ok (.iload_n 2, 1) := by decide +kernel
theorem d_M_add_86 : decode c_M_add 86 = .ok (.iastore, 1) := by decide +kernel
theorem d_M_add_87 : decode c_M_add 87 = .ok (.aload_n 0, 1) := by decide +kernel
theorem d_M_add_88 : decode c_M_add 88 = .ok (.getfield 28, 3) := by decide +kernel
theorem d_M_add_91 : decode c_M_add 91 = .ok (.iload 6, 2) := by decide +kernel
theorem d_M_add_93 : decode c_M_add 93 = .ok (.iload_n 3, 1) := by decide +kernel
theorem d_M_add_94 : decode c_M_add 94 = .ok (.iastore, 1) := by decide +kernel
theorem d_M_add_95 : decode c_M_add 95 = .ok (.aload_n 0, 1) := by decide +kernel
theorem d_M_add_96 : decode c_M_add 96 = .ok (.getfield 31, 3) := by decide +kernel
theorem d_M_add_99 : decode c_M_add 99 = .ok (.iload 6, 2) := by decide +kernel
theorem d_M_add_101 : decode c_M_add 101 = .ok (.iload 4, 2) := by decide +kernel
theorem d_M_add_103 : decode c_M_add 103 = .ok (.iastore, 1) := by decide +kernel
theorem d_M_add_104 : decode c_M_add 104 = .ok (.aload_n 0, 1) := by decide +kernel
theorem d_M_add_105 : decode c_M_add 105 = .ok (.getfield 34, 3) := by decide +kernel
theorem d_M_add_108 : decode c_M_add 108 = .ok (.iload 6, 2) := by decide +kernel
theorem d_M_add_110 : decode c_M_add 110 = .ok (.iload 5, 2) := by decide +kernel
theorem d_M_add_112 : decode c_M_add 112 = .ok (.iastore, 1) := by decide +kernel
theorem d_M_add_113 : decode c_M_add 113 = .ok (.aload_n 0, 1) := by decide +kernel
theorem d_M_add_114 : decode c_M_add 114 = .ok (.dup, 1) := by decide +kernel
theorem d_M_add_115 : decode c_M_add 115 = .ok (.getfield 71, 3) := by decide +kernel
theorem d_M_add_118 : decode c_M_add 118 = .ok (.iconst 1, 1) := by decide +kernel
theorem d_M_add_119 : decode c_M_add 119 = .ok (.iadd, 1) := by decide +kernel
theorem d_M_add_120 : decode c_M_add 120 = .ok (.putfield 71, 3) := by decide +kernel
theorem d_M_add_123 : decode c_M_add 123 = .ok (.return_, 1) := by decide +kernel
theorem d_M_joined_0 : decode c_M_joined 0 = .ok (.iconst 0, 1) := by decide +kernel
theorem d_M_joined_1 : decode c_M_joined 1 = .ok (.istore_n 2, 1) := by decide +kernel
theorem d_M_joined_2 : decode c_M_joined 2 = .ok (.iconst 0, 1) := by decide +kernel
theorem d_M_joined_3 : decode c_M_joined 3 = .ok (.istore_n 3, 1) := by decide +kernel
theorem d_M_joined_4 : decode c_M_joined 4 = .ok (.iload_n 3, 1) := by decide +kernel
theorem d_M_joined_5 : decode c_M_joined 5 = .ok (.iconst 4, 1) := by decide +kernel
theorem d_M_joined_6 : decode c_M_joined 6 = .ok (.if_icmp .ge 122, 3) := by decide +kernel
theorem d_M_joined_9 : decode c_M_joined 9 = .ok (.iconst 0, 1) := by decide +kernel
theorem d_M_joined_10 : decode c_M_joined 10 = .ok (.istore 4, 2) := by decide +kernel
theorem d_M_joined_12 : decode c_M_joined 12 = .ok (.iload 4, 2) := by decide +kernel
theorem d_M_joined_14 : decode c_M_joined 14 = .ok (.iconst 4, 1) := by decide +kernel
theorem d_M_joined_15 : decode c_M_joined 15 = .ok (.if_icmp .ge 107, 3) := by decide +kernel
theorem d_M_joined_18 : decode c_M_joined 18 = .ok (.iconst 0, 1) := by decide +kernel
theorem d_M_joined_19 : decode c_M_joined 19 = .ok (.istore 5, 2) := by decide +kernel
theorem d_M_joined_21 : decode c_M_joined 21 = .ok (.iconst 0, 1) := by decide +kernel
theorem d_M_joined_22 : decode c_M_joined 22 = .ok (.istore 6, 2) := by decide +kernel
theorem d_M_joined_24 : decode c_M_joined 24 = .ok (.iload 6, 2) := by decide +kernel
theorem d_M_joined_26 : decode c_M_joined 26 = .ok (.iconst 4, 1) := by decide +kernel
theorem d_M_joined_27 : decode c_M_joined 27 = .ok (.if_icmp .ge 74, 3) := by decide +kernel
theorem d_M_joined_30 : decode c_M_joined 30 = .ok (.iload_n 0, 1) := by decide +kernel
theorem d_M_joined_31 : decode c_M_joined 31 = .ok (.iload_n 3, 1) := by decide +kernel
theorem d_M_joined_32 : decode c_M_joined 32 = .ok (.iload 6, 2) := by decide +kernel
theorem d_M_joined_34 : decode c_M_joined 34 = .ok (.invokestatic 67, 3) := by decide +kernel
theorem d_M_joined_37 : decode c_M_joined 37 = .ok (.istore 7, 2) := by decide +kernel
theorem d_M_joined_39 : decode c_M_joined 39 = .ok (.iload_n 1, 1) := by decide +kernel
theorem d_M_joined_40 : decode c_M_joined 40 = .ok (.iload 6, 2) := by decide +kernel
theorem d_M_joined_42 : decode c_M_joined 42 = .ok (.iload 4, 2) := by decide +kernel
theorem d_M_joined_44 : decode c_M_joined 44 = .ok (.invokestatic 67, 3) := by decide +kernel
theorem d_M_joined_47 : decode c_M_joined 47 = .ok (.istore 8, 2) := by decide +kernel
theorem d_M_joined_49 : decode c_M_joined 49 = .ok (.iload 7, 2) := by decide +kernel
theorem d_M_joined_51 : decode c_M_joined 51 = .ok (.ifCond .eq 8, 3) := by decide +kernel
theorem d_M_joined_54 : decode c_M_joined 54 = .ok (.iload 8, 2) := by decide +kernel
theorem d_M_joined_56 : decode c_M_joined 56 = .ok (.ifCond .ne 7, 3) := by decide +kernel
theorem d_M_joined_59 : decode c_M_joined 59 = .ok (.iconst 0, 1) := by decide +kernel
theorem d_M_joined_60 : decode c_M_joined 60 = .ok (.goto 17, 3) := by decide +kernel
theorem d_M_joined_63 : decode c_M_joined 63 = .ok (.iload 7, 2) := by decide +kernel
theorem d_M_joined_65 : decode c_M_joined 65 = .ok (.iload 8, 2) := by decide +kernel
theorem d_M_joined_67 : decode c_M_joined 67 = .ok (.if_icmp .le 8, 3) := by decide +kernel
theorem d_M_joined_70 : decode c_M_joined 70 = .ok (.iload 7, 2) := by decide +kernel
theorem d_M_joined_72 : decode c_M_joined 72 = .ok (.goto 5, 3) := by decide +kernel
theorem d_M_joined_75 : decode c_M_joined 75 = .ok (.iload 8, 2) := by decide +kernel
theorem d_M_joined_77 : decode c_M_joined 77 = .ok (.istore 9, 2) := by decide +kernel
theorem d_M_joined_79 : decode c_M_joined 79 = .ok (.iload 9, 2) := by decide +kernel
theorem d_M_joined_81 : decode c_M_joined 81 = .ok (.iload 5, 2) := by decide +kernel
theorem d_M_joined_83 : decode c_M_joined 83 = .ok (.if_icmp .le 8, 3) := by decide +kernel
theorem d_M_joined_86 : decode c_M_joined 86 = .ok (.iload 9, 2) := by decide +kernel
theorem d_M_joined_88 : decode c_M_joined 88 = .ok (.goto 5, 3) := by decide +kernel
theorem d_M_joined_91 : decode c_M_joined 91 = .ok (.iload 5, 2) := by decide +kernel
theorem d_M_joined_93 : decode c_M_joined 93 = .ok (.istore 5, 2) := by decide +kernel
theorem d_M_joined_95 : decode c_M_joined 95 = .ok (.iinc 6 1, 3) := by decide +kernel
theorem d_M_joined_98 : decode c_M_joined 98 = .ok (.goto (-74), 3) := by decide +kernel
theorem d_M_joined_101 : decode c_M_joined 101 = .ok (.iload_n 2, 1) := by decide +kernel
theorem d_M_joined_102 : decode c_M_joined 102 = .ok (.iload 5, 2) := by decide +kernel
theorem d_M_joined_104 : decode c_M_joined 104 = .ok (.bipush 8, 2) := by decide +kernel
theorem d_M_joined_106 : decode c_M_joined 106 = .ok (.iload_n 3, 1) := by decide +kernel
theorem d_M_joined_107 : decode c_M_joined 107 = .ok (.imul, 1) := by decide +kernel
theorem d_M_joined_108 : decode c_M_joined 108 = .ok (.iconst 2, 1) := by decide +kernel
theorem d_M_joined_109 : decode c_M_joined 109 = .ok (.iload 4, 2) := by decide +kernel
theorem d_M_joined_111 : decode c_M_joined 111 = .ok (.imul, 1) := by decide +kernel
theorem d_M_joined_112 : decode c_M_joined 112 = .ok (.iadd, 1) := by decide +kernel
theorem d_M_joined_113 : decode c_M_joined 113 = .ok (.ishl, 1) := by decide +kernel
theorem d_M_joined_114 : decode c_M_joined 114 = .ok (.ior, 1) := by decide +kernel
theorem d_M_joined_115 : decode c_M_joined 115 = .ok (.istore_n 2, 1) := by decide +kernel
theorem d_M_joined_116 : decode c_M_joined 116 = .ok (.iinc 4 1, 3) := by decide +kernel
theorem d_M_joined_119 : decode c_M_joined 119 = .ok (.goto (-107), 3) := by decide +kernel
theorem d_M_joined_122 : decode c_M_joined 122 = .ok (.iinc 3 1, 3) := by decide +kernel
theorem d_M_joined_125 : decode c_M_joined 125 = .ok (.goto (-121), 3) := by decide +kernel
theorem d_M_joined_128 : decode c_M_joined 128 = .ok (.iload_n 2, 1) := by decide +kernel
theorem d_M_joined_129 : decode c_M_joined 129 = .ok (.ireturn, 1) := by decide +kernel
theorem d_M_between_0 : decode c_M_between 0 = .ok (.iconst 0, 1) := by decide +kernel
theorem d_M_between_1 : decode c_M_between 1 = .ok (.istore_n 3, 1) := by decide +kernel
theorem d_M_between_2 : decode c_M_between 2 = .ok (.iconst 0, 1) := by decide +kernel
theorem d_M_between_3 : decode c_M_between 3 = .ok (.istore 4, 2) := by decide +kernel
theorem d_M_between_5 : decode c_M_between 5 = .ok (.iload 4, 2) := by decide +kernel
theorem d_M_between_7 : decode c_M_between 7 = .ok (.aload_n 0, 1) := by decide +kernel
theorem d_M_between_8 : decode c_M_between 8 = .ok (.getfield 71, 3) := by decide +kernel
theorem d_M_between_11 : decode c_M_between 11 = .ok (.if_icmp .ge 39, 3) := by decide +kernel
theorem d_M_between_14 : decode c_M_between 14 = .ok (.iload_n 3, 1) := by decide +kernel
theorem d_M_between_15 : decode c_M_between 15 = .ok (.aload_n 0, 1) := by decide +kernel
theorem d_M_between_16 : decode c_M_between 16 = .ok (.getfield 22, 3) := by decide +kernel
theorem d_M_between_19 : decode c_M_between 19 = .ok (.iload 4, 2) := by decide +kernel
theorem d_M_between_21 : decode c_M_between 21 = .ok (.iaload, 1) := by decide +kernel
theorem d_M_between_22 : decode c_M_between 22 = .ok (.iload_n 1, 1) := by decide +kernel
theorem d_M_between_23 : decode c_M_between 23 = .ok (.if_icmp .ne 18, 3) := by decide +kernel
theorem d_M_between_26 : decode c_M_between 26 = .ok (.aload_n 0, 1) := by decide +kernel
theorem d_M_between_27 : decode c_M_between 27 = .ok (.getfield 25, 3) := by decide +kernel
theorem d_M_between_30 : decode c_M_between 30 = .ok (.iload 4, 2) := by decide +kernel
theorem d_M_between_32 : decode c_M_between 32 = .ok (.iaload, 1) := by decide +kernel
theorem d_M_between_33 : decode c_M_between 33 = .ok (.iload_n 2, 1) := by decide +kernel
theorem d_M_between_34 : decode c_M_between 34 = .ok (.if_icmp .ne 7, 3) := by decide +kernel
theorem d_M_between_37 : decode c_M_between 37 = .ok (.iconst 1, 1) := by decide +kernel
theorem d_M_between_38 : decode c_M_between 38 = .ok (.goto 4, 3) := by decide +kernel
theorem d_M_between_41 : decode c_M_between 41 = .ok (.iconst 0, 1) := by decide +kernel
theorem d_M_between_42 : decode c_M_between 42 = .ok (.iadd, 1) := by decide +kernel
theorem d_M_between_43 : decode c_M_between 43 = .ok (.istore_n 3, 1) := by decide +kernel
theorem d_M_between_44 : decode c_M_between 44 = .ok (.iinc 4 1, 3) := by decide +kernel
theorem d_M_between_47 : decode c_M_between 47 = .ok (.goto (-42), 3) := by decide +kernel
theorem d_M_between_50 : decode c_M_between 50 = .ok (.iload_n 3, 1) := by decide +kernel
theorem d_M_between_51 : decode c_M_between 51 = .ok (.ireturn, 1) := by decide +kernel
theorem d_M_graph_0 : decode c_M_graph 0 = .ok (.aload_n 0, 1) := by decide +kernel
theorem d_M_graph_1 : decode c_M_graph 1 = .ok (.aload_n 0, 1) := by decide +kernel
theorem d_M_graph_2 : decode c_M_graph 2 = .ok (.iload_n 1, 1) := by decide +kernel
theorem d_M_graph_3 : decode c_M_graph 3 = .ok (.invokevirtual 60, 3) := by decide +kernel
theorem d_M_graph_6 : decode c_M_graph 6 = .ok (.ifCond .eq 15, 3) := by decide +kernel
theorem d_M_graph_9 : decode c_M_graph 9 = .ok (.aload_n 0, 1) := by decide +kernel
theorem d_M_graph_10 : decode c_M_graph 10 = .ok (.iload_n 2, 1) := by decide +kernel
theorem d_M_graph_11 : decode c_M_graph 11 = .ok (.invokevirtual 60, 3) := by decide +kernel
theorem d_M_graph_14 : decode c_M_graph 14 = .ok (.ifCond .eq 7, 3) := by decide +kernel
theorem d_M_graph_17 : decode c_M_graph 17 = .ok (.iload_n 3, 1) := by decide +kernel
theorem d_M_graph_18 : decode c_M_graph 18 = .ok (.ifCond .ge 7, 3) := by decide +kernel
theorem d_M_graph_21 : decode c_M_graph 21 = .ok (.iconst 1, 1) := by decide +kernel
theorem d_M_graph_22 : decode c_M_graph 22 = .ok (.goto 4, 3) := by decide +kernel
theorem d_M_graph_25 : decode c_M_graph 25 = .ok (.iconst 0, 1) := by decide +kernel
theorem d_M_graph_26 : decode c_M_graph 26 = .ok (.iconst 0, 1) := by decide +kernel
theorem d_M_graph_27 : decode c_M_graph 27 = .ok (.invokevirtual 85, 3) := by decide +kernel
theorem d_M_graph_30 : decode c_M_graph 30 = .ok (.ifCond .eq 5, 3) := by decide +kernel
theorem d_M_graph_33 : decode c_M_graph 33 = .ok (.iconst 0, 1) := by decide +kernel
theorem d_M_graph_34 : decode c_M_graph 34 = .ok (.ireturn, 1) := by decide +kernel
theorem d_M_graph_35 : decode c_M_graph 35 = .ok (.iload_n 3, 1) := by decide +kernel
theorem d_M_graph_36 : decode c_M_graph 36 = .ok (.aload_n 0, 1) := by decide +kernel
theorem d_M_graph_37 : decode c_M_graph 37 = .ok (.iload_n 1, 1) := by decide +kernel
theorem d_M_graph_38 : decode c_M_graph 38 = .ok (.iload_n 2, 1) := by decide +kernel
theorem d_M_graph_39 : decode c_M_graph 39 = .ok (.invokevirtual 89, 3) := by decide +kernel
theorem d_M_graph_42 : decode c_M_graph 42 = .ok (.if_icmp .lt 10, 3) := by decide +kernel
theorem d_M_graph_45 : decode c_M_graph 45 = .ok (.aload_n 0, 1) := by decide +kernel
theorem d_M_graph_46 : decode c_M_graph 46 = .ok (.iconst 1, 1) := by decide +kernel
theorem d_M_graph_47 : decode c_M_graph 47 = .ok (.putfield 53, 3) := by decide +kernel
theorem d_M_graph_50 : decode c_M_graph 50 = .ok (.iconst 0, 1) := by decide +kernel
theorem d_M_graph_51 : decode c_M_graph 51 = .ok (.ireturn, 1) := by decide +kernel
theorem d_M_graph_52 : decode c_M_graph 52 = .ok (.iconst 0, 1) := by decide +kernel
theorem d_M_graph_53 : decode c_M_graph 53 = .ok (.istore 4, 2) := by decide +kernel
theorem d_M_graph_55 : decode c_M_graph 55 = .ok (.iconst 0, 1) := by decide +kernel
theorem d_M_graph_56 : decode c_M_graph 56 = .ok (.istore 5, 2) := by decide +kernel
theorem d_M_graph_58 : decode c_M_graph 58 = .ok (.iload 5, 2) := by decide +kernel
theorem d_M_graph_60 : decode c_M_graph 60 = .ok (.aload_n 0, 1) := by decide +kernel
theorem d_M_graph_61 : decode c_M_graph 61 = .ok (.getfield 71, 3) := by decide +kernel
theorem d_M_graph_64 : decode c_M_graph 64 = .ok (.if_icmp .ge 104, 3) := by decide +kernel
theorem d_M_graph_67 : decode c_M_graph 67 = .ok (.aload_n 0, 1) := by decide +kernel
theorem d_M_graph_68 : decode c_M_graph 68 = .ok (.getfield 22, 3) := by decide +kernel
theorem d_M_graph_71 : decode c_M_graph 71 = .ok (.iload 5, 2) := by decide +kernel
theorem d_M_graph_73 : decode c_M_graph 73 = .ok (.iaload, 1) := by decide +kernel
theorem d_M_graph_74 : decode c_M_graph 74 = .ok (.iload_n 1, 1) := by decide +kernel
theorem d_M_graph_75 : decode c_M_graph 75 = .ok (.if_icmp .ne 87, 3) := by decide +kernel
theorem d_M_graph_78 : decode c_M_graph 78 = .ok (.aload_n 0, 1) := by decide +kernel
theorem d_M_graph_79 : decode c_M_graph 79 = .ok (.getfield 25, 3) := by decide +kernel
theorem d_M_graph_82 : decode c_M_graph 82 = .ok (.iload 5, 2) := by decide +kernel
theorem d_M_graph_84 : decode c_M_graph 84 = .ok (.iaload, 1) := by decide +kernel
theorem d_M_graph_85 : decode c_M_graph 85 = .ok (.iload_n 2, 1) := by decide +kernel
theorem d_M_graph_86 : decode c_M_graph 86 = .ok (.if_icmp .eq 6, 3) := by decide +kernel
theorem d_M_graph_89 : decode c_M_graph 89 = .ok (.goto 73, 3) := by decide +kernel
theorem d_M_graph_92 : decode c_M_graph 92 = .ok (.iload 4, 2) := by decide +kernel
theorem d_M_graph_94 : decode c_M_graph 94 = .ok (.istore 6, 2) := by decide +kernel
theorem d_M_graph_96 : decode c_M_graph 96 = .ok (.iload 6, 2) := by decide +kernel
theorem d_M_graph_98 : decode c_M_graph 98 = .ok (.ifCond .le 47, 3) := by decide +kernel
theorem d_M_graph_101 : decode c_M_graph 101 = .ok (.aload_n 0, 1) := by decide +kernel
theorem d_M_graph_102 : decode c_M_graph 102 = .ok (.getfield 28, 3) := by decide +kernel
theorem d_M_graph_105 : decode c_M_graph 105 = .ok (.iload 5, 2) := by decide +kernel
theorem d_M_graph_107 : decode c_M_graph 107 = .ok (.iaload, 1) := by decide +kernel
theorem d_M_graph_108 : decode c_M_graph 108 = .ok (.aload_n 0, 1) := by decide +kernel
theorem d_M_graph_109 : decode c_M_graph 109 = .ok (.getfield 50, 3) := by decide +kernel
theorem d_M_graph_112 : decode c_M_graph 112 = .ok (.iload 6, 2) := by decide +kernel
theorem d_M_graph_114 : decode c_M_graph 114 = .ok (.iconst 1, 1) := by decide +kernel
theorem d_M_graph_115 : decode c_M_graph 115 = .ok (.isub, 1) := by decide +kernel
theorem d_M_graph_116 : decode c_M_graph 116 = .ok (.iaload, 1) := by decide +kernel
theorem d_M_graph_117 : decode c_M_graph 117 = .ok (.invokestatic 92, 3) := by decide +kernel
theorem d_M_graph_120 : decode c_M_graph 120 = .ok (.ifCond .eq 25, 3) := by decide +kernel
