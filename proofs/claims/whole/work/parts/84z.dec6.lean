set_option maxRecDepth 20000 in
theorem dX15_init_0 : decode cX15_init 0 = .ok (.aload_n 0, 1) := by decide +kernel
set_option maxRecDepth 20000 in
theorem dX15_init_1 : decode cX15_init 1 = .ok (.invokespecial 1, 3) := by decide +kernel
set_option maxRecDepth 20000 in
theorem dX15_init_4 : decode cX15_init 4 = .ok (.aload_n 0, 1) := by decide +kernel
set_option maxRecDepth 20000 in
theorem dX15_init_5 : decode cX15_init 5 = .ok (.bipush 6, 2) := by decide +kernel
set_option maxRecDepth 20000 in
theorem dX15_init_7 : decode cX15_init 7 = .ok (.anewarray 7, 3) := by decide +kernel
set_option maxRecDepth 20000 in
theorem dX15_init_10 : decode cX15_init 10 = .ok (.putfield 9, 3) := by decide +kernel
set_option maxRecDepth 20000 in
theorem dX15_init_13 : decode cX15_init 13 = .ok (.aload_n 0, 1) := by decide +kernel
set_option maxRecDepth 20000 in
theorem dX15_init_14 : decode cX15_init 14 = .ok (.sipush 300, 3) := by decide +kernel
set_option maxRecDepth 20000 in
theorem dX15_init_17 : decode cX15_init 17 = .ok (.newarray .int, 2) := by decide +kernel
set_option maxRecDepth 20000 in
theorem dX15_init_19 : decode cX15_init 19 = .ok (.putfield 15, 3) := by decide +kernel
set_option maxRecDepth 20000 in
theorem dX15_init_22 : decode cX15_init 22 = .ok (.aload_n 0, 1) := by decide +kernel
set_option maxRecDepth 20000 in
theorem dX15_init_23 : decode cX15_init 23 = .ok (.sipush 260, 3) := by decide +kernel
set_option maxRecDepth 20000 in
theorem dX15_init_26 : decode cX15_init 26 = .ok (.newarray .int, 2) := by decide +kernel
set_option maxRecDepth 20000 in
theorem dX15_init_28 : decode cX15_init 28 = .ok (.putfield 19, 3) := by decide +kernel
set_option maxRecDepth 20000 in
theorem dX15_init_31 : decode cX15_init 31 = .ok (.aload_n 0, 1) := by decide +kernel
set_option maxRecDepth 20000 in
theorem dX15_init_32 : decode cX15_init 32 = .ok (.new 22, 3) := by decide +kernel
set_option maxRecDepth 20000 in
theorem dX15_init_35 : decode cX15_init 35 = .ok (.dup, 1) := by decide +kernel
set_option maxRecDepth 20000 in
theorem dX15_init_36 : decode cX15_init 36 = .ok (.invokespecial 24, 3) := by decide +kernel
set_option maxRecDepth 20000 in
theorem dX15_init_39 : decode cX15_init 39 = .ok (.putfield 25, 3) := by decide +kernel
set_option maxRecDepth 20000 in
theorem dX15_init_42 : decode cX15_init 42 = .ok (.aload_n 0, 1) := by decide +kernel
set_option maxRecDepth 20000 in
theorem dX15_init_43 : decode cX15_init 43 = .ok (.iconst 3, 1) := by decide +kernel
set_option maxRecDepth 20000 in
theorem dX15_init_44 : decode cX15_init 44 = .ok (.putfield 29, 3) := by decide +kernel
set_option maxRecDepth 20000 in
theorem dX15_init_47 : decode cX15_init 47 = .ok (.aload_n 0, 1) := by decide +kernel
set_option maxRecDepth 20000 in
theorem dX15_init_48 : decode cX15_init 48 = .ok (.sipush 200, 3) := by decide +kernel
set_option maxRecDepth 20000 in
theorem dX15_init_51 : decode cX15_init 51 = .ok (.putfield 33, 3) := by decide +kernel
set_option maxRecDepth 20000 in
theorem dX15_init_54 : decode cX15_init 54 = .ok (.aload_n 0, 1) := by decide +kernel
set_option maxRecDepth 20000 in
theorem dX15_init_55 : decode cX15_init 55 = .ok (.bipush 40, 2) := by decide +kernel
set_option maxRecDepth 20000 in
theorem dX15_init_57 : decode cX15_init 57 = .ok (.putfield 36, 3) := by decide +kernel
set_option maxRecDepth 20000 in
theorem dX15_init_60 : decode cX15_init 60 = .ok (.aload_n 0, 1) := by decide +kernel
set_option maxRecDepth 20000 in
theorem dX15_init_61 : decode cX15_init 61 = .ok (.new 39, 3) := by decide +kernel
set_option maxRecDepth 20000 in
theorem dX15_init_64 : decode cX15_init 64 = .ok (.dup, 1) := by decide +kernel
set_option maxRecDepth 20000 in
theorem dX15_init_65 : decode cX15_init 65 = .ok (.bipush 16, 2) := by decide +kernel
set_option maxRecDepth 20000 in
theorem dX15_init_67 : decode cX15_init 67 = .ok (.iconst 3, 1) := by decide +kernel
set_option maxRecDepth 20000 in
theorem dX15_init_68 : decode cX15_init 68 = .ok (.invokespecial 41, 3) := by decide +kernel
set_option maxRecDepth 20000 in
theorem dX15_init_71 : decode cX15_init 71 = .ok (.putfield 44, 3) := by decide +kernel
set_option maxRecDepth 20000 in
theorem dX15_init_74 : decode cX15_init 74 = .ok (.aload_n 0, 1) := by decide +kernel
set_option maxRecDepth 20000 in
theorem dX15_init_75 : decode cX15_init 75 = .ok (.new 39, 3) := by decide +kernel
set_option maxRecDepth 20000 in
theorem dX15_init_78 : decode cX15_init 78 = .ok (.dup, 1) := by decide +kernel
set_option maxRecDepth 20000 in
theorem dX15_init_79 : decode cX15_init 79 = .ok (.bipush 32, 2) := by decide +kernel
set_option maxRecDepth 20000 in
theorem dX15_init_81 : decode cX15_init 81 = .ok (.iconst 5, 1) := by decide +kernel
set_option maxRecDepth 20000 in
theorem dX15_init_82 : decode cX15_init 82 = .ok (.invokespecial 41, 3) := by decide +kernel
set_option maxRecDepth 20000 in
theorem dX15_init_85 : decode cX15_init 85 = .ok (.putfield 48, 3) := by decide +kernel
set_option maxRecDepth 20000 in
theorem dX15_init_88 : decode cX15_init 88 = .ok (.aload_n 0, 1) := by decide +kernel
set_option maxRecDepth 20000 in
theorem dX15_init_89 : decode cX15_init 89 = .ok (.new 39, 3) := by decide +kernel
set_option maxRecDepth 20000 in
theorem dX15_init_92 : decode cX15_init 92 = .ok (.dup, 1) := by decide +kernel
set_option maxRecDepth 20000 in
theorem dX15_init_93 : decode cX15_init 93 = .ok (.bipush 8, 2) := by decide +kernel
set_option maxRecDepth 20000 in
theorem dX15_init_95 : decode cX15_init 95 = .ok (.iconst 4, 1) := by decide +kernel
set_option maxRecDepth 20000 in
theorem dX15_init_96 : decode cX15_init 96 = .ok (.invokespecial 41, 3) := by decide +kernel
set_option maxRecDepth 20000 in
theorem dX15_init_99 : decode cX15_init 99 = .ok (.putfield 51, 3) := by decide +kernel
set_option maxRecDepth 20000 in
theorem dX15_init_102 : decode cX15_init 102 = .ok (.aload_n 0, 1) := by decide +kernel
set_option maxRecDepth 20000 in
theorem dX15_init_103 : decode cX15_init 103 = .ok (.bipush 14, 2) := by decide +kernel
set_option maxRecDepth 20000 in
theorem dX15_init_105 : decode cX15_init 105 = .ok (.putfield 54, 3) := by decide +kernel
set_option maxRecDepth 20000 in
theorem dX15_init_108 : decode cX15_init 108 = .ok (.aload_n 0, 1) := by decide +kernel
set_option maxRecDepth 20000 in
theorem dX15_init_109 : decode cX15_init 109 = .ok (.sipush 260, 3) := by decide +kernel
set_option maxRecDepth 20000 in
theorem dX15_init_112 : decode cX15_init 112 = .ok (.newarray .int, 2) := by decide +kernel
set_option maxRecDepth 20000 in
theorem dX15_init_114 : decode cX15_init 114 = .ok (.putfield 57, 3) := by decide +kernel
set_option maxRecDepth 20000 in
theorem dX15_init_117 : decode cX15_init 117 = .ok (.aload_n 0, 1) := by decide +kernel
set_option maxRecDepth 20000 in
theorem dX15_init_118 : decode cX15_init 118 = .ok (.bipush 64, 2) := by decide +kernel
set_option maxRecDepth 20000 in
theorem dX15_init_120 : decode cX15_init 120 = .ok (.newarray .int, 2) := by decide +kernel
set_option maxRecDepth 20000 in
theorem dX15_init_122 : decode cX15_init 122 = .ok (.putfield 60, 3) := by decide +kernel
set_option maxRecDepth 20000 in
theorem dX15_init_125 : decode cX15_init 125 = .ok (.aload_n 0, 1) := by decide +kernel
set_option maxRecDepth 20000 in
theorem dX15_init_126 : decode cX15_init 126 = .ok (.bipush 64, 2) := by decide +kernel
set_option maxRecDepth 20000 in
theorem dX15_init_128 : decode cX15_init 128 = .ok (.newarray .int, 2) := by decide +kernel
set_option maxRecDepth 20000 in
theorem dX15_init_130 : decode cX15_init 130 = .ok (.putfield 63, 3) := by decide +kernel
set_option maxRecDepth 20000 in
theorem dX15_init_133 : decode cX15_init 133 = .ok (.aload_n 0, 1) := by decide +kernel
set_option maxRecDepth 20000 in
theorem dX15_init_134 : decode cX15_init 134 = .ok (.sipush 400, 3) := by decide +kernel
set_option maxRecDepth 20000 in
theorem dX15_init_137 : decode cX15_init 137 = .ok (.newarray .int, 2) := by decide +kernel
set_option maxRecDepth 20000 in
theorem dX15_init_139 : decode cX15_init 139 = .ok (.putfield 66, 3) := by decide +kernel
set_option maxRecDepth 20000 in
theorem dX15_init_142 : decode cX15_init 142 = .ok (.aload_n 0, 1) := by decide +kernel
set_option maxRecDepth 20000 in
theorem dX15_init_143 : decode cX15_init 143 = .ok (.sipush 300, 3) := by decide +kernel
set_option maxRecDepth 20000 in
theorem dX15_init_146 : decode cX15_init 146 = .ok (.newarray .int, 2) := by decide +kernel
set_option maxRecDepth 20000 in
theorem dX15_init_148 : decode cX15_init 148 = .ok (.putfield 69, 3) := by decide +kernel
set_option maxRecDepth 20000 in
theorem dX15_init_151 : decode cX15_init 151 = .ok (.iconst 0, 1) := by decide +kernel
set_option maxRecDepth 20000 in
theorem dX15_init_152 : decode cX15_init 152 = .ok (.istore_n 1, 1) := by decide +kernel
set_option maxRecDepth 20000 in
theorem dX15_init_153 : decode cX15_init 153 = .ok (.iload_n 1, 1) := by decide +kernel
set_option maxRecDepth 20000 in
theorem dX15_init_154 : decode cX15_init 154 = .ok (.bipush 6, 2) := by decide +kernel
set_option maxRecDepth 20000 in
theorem dX15_init_156 : decode cX15_init 156 = .ok (.if_icmp .ge 22, 3) := by decide +kernel
set_option maxRecDepth 20000 in
theorem dX15_init_159 : decode cX15_init 159 = .ok (.aload_n 0, 1) := by decide +kernel
set_option maxRecDepth 20000 in
theorem dX15_init_160 : decode cX15_init 160 = .ok (.getfield 9, 3) := by decide +kernel
set_option maxRecDepth 20000 in
theorem dX15_init_163 : decode cX15_init 163 = .ok (.iload_n 1, 1) := by decide +kernel
set_option maxRecDepth 20000 in
theorem dX15_init_164 : decode cX15_init 164 = .ok (.new 7, 3) := by decide +kernel
set_option maxRecDepth 20000 in
theorem dX15_init_167 : decode cX15_init 167 = .ok (.dup, 1) := by decide +kernel
set_option maxRecDepth 20000 in
theorem dX15_init_168 : decode cX15_init 168 = .ok (.invokespecial 72, 3) := by decide +kernel
set_option maxRecDepth 20000 in
theorem dX15_init_171 : decode cX15_init 171 = .ok (.aastore, 1) := by decide +kernel
set_option maxRecDepth 20000 in
theorem dX15_init_172 : decode cX15_init 172 = .ok (.iinc 1 1, 3) := by decide +kernel
set_option maxRecDepth 20000 in
theorem dX15_init_175 : decode cX15_init 175 = .ok (.goto (-22), 3) := by decide +kernel
set_option maxRecDepth 20000 in
theorem dX15_init_178 : decode cX15_init 178 = .ok (.return_, 1) := by decide +kernel
set_option maxRecDepth 20000 in
theorem dX15_thrown_0 : decode cX15_thrown 0 = .ok (.aload_n 0, 1) := by decide +kernel
set_option maxRecDepth 20000 in
theorem dX15_thrown_1 : decode cX15_thrown 1 = .ok (.getfield 73, 3) := by decide +kernel
set_option maxRecDepth 20000 in
theorem dX15_thrown_4 : decode cX15_thrown 4 = .ok (.ireturn, 1) := by decide +kernel
set_option maxRecDepth 20000 in
theorem dX15_in_0 : decode cX15_in 0 = .ok (.iload_n 0, 1) := by decide +kernel
set_option maxRecDepth 20000 in
theorem dX15_in_1 : decode cX15_in 1 = .ok (.iload_n 1, 1) := by decide +kernel
set_option maxRecDepth 20000 in
theorem dX15_in_2 : decode cX15_in 2 = .ok (.if_icmp .lt 12, 3) := by decide +kernel
set_option maxRecDepth 20000 in
theorem dX15_in_5 : decode cX15_in 5 = .ok (.iload_n 0, 1) := by decide +kernel
set_option maxRecDepth 20000 in
theorem dX15_in_6 : decode cX15_in 6 = .ok (.iload_n 2, 1) := by decide +kernel
set_option maxRecDepth 20000 in
theorem dX15_in_7 : decode cX15_in 7 = .ok (.if_icmp .gt 7, 3) := by decide +kernel
set_option maxRecDepth 20000 in
theorem dX15_in_10 : decode cX15_in 10 = .ok (.iconst 1, 1) := by decide +kernel
set_option maxRecDepth 20000 in
theorem dX15_in_11 : decode cX15_in 11 = .ok (.goto 4, 3) := by decide +kernel
set_option maxRecDepth 20000 in
theorem dX15_in_14 : decode cX15_in 14 = .ok (.iconst 0, 1) := by decide +kernel
set_option maxRecDepth 20000 in
theorem dX15_in_15 : decode cX15_in 15 = .ok (.ireturn, 1) := by decide +kernel
set_option maxRecDepth 20000 in
theorem dX15_sumOf_0 : decode cX15_sumOf 0 = .ok (.ldc 76, 2) := by decide +kernel
set_option maxRecDepth 20000 in
theorem dX15_sumOf_2 : decode cX15_sumOf 2 = .ok (.istore_n 2, 1) := by decide +kernel
set_option maxRecDepth 20000 in
theorem dX15_sumOf_3 : decode cX15_sumOf 3 = .ok (.iconst 0, 1) := by decide +kernel
set_option maxRecDepth 20000 in
theorem dX15_sumOf_4 : decode cX15_sumOf 4 = .ok (.istore_n 3, 1) := by decide +kernel
set_option maxRecDepth 20000 in
theorem dX15_sumOf_5 : decode cX15_sumOf 5 = .ok (.iload_n 3, 1) := by decide +kernel
set_option maxRecDepth 20000 in
theorem dX15_sumOf_6 : decode cX15_sumOf 6 = .ok (.iload_n 1, 1) := by decide +kernel
set_option maxRecDepth 20000 in
theorem dX15_sumOf_7 : decode cX15_sumOf 7 = .ok (.if_icmp .ge 59, 3) := by decide +kernel
set_option maxRecDepth 20000 in
theorem dX15_sumOf_10 : decode cX15_sumOf 10 = .ok (.iload_n 2, 1) := by decide +kernel
set_option maxRecDepth 20000 in
theorem dX15_sumOf_11 : decode cX15_sumOf 11 = .ok (.aload_n 0, 1) := by decide +kernel
set_option maxRecDepth 20000 in
theorem dX15_sumOf_12 : decode cX15_sumOf 12 = .ok (.iload_n 3, 1) := by decide +kernel
set_option maxRecDepth 20000 in
theorem dX15_sumOf_13 : decode cX15_sumOf 13 = .ok (.iaload, 1) := by decide +kernel
set_option maxRecDepth 20000 in
theorem dX15_sumOf_14 : decode cX15_sumOf 14 = .ok (.ixor, 1) := by decide +kernel
set_option maxRecDepth 20000 in
theorem dX15_sumOf_15 : decode cX15_sumOf 15 = .ok (.istore_n 2, 1) := by decide +kernel
set_option maxRecDepth 20000 in
theorem dX15_sumOf_16 : decode cX15_sumOf 16 = .ok (.iconst 0, 1) := by decide +kernel
set_option maxRecDepth 20000 in
theorem dX15_sumOf_17 : decode cX15_sumOf 17 = .ok (.istore 4, 2) := by decide +kernel
set_option maxRecDepth 20000 in
theorem dX15_sumOf_19 : decode cX15_sumOf 19 = .ok (.iload 4, 2) := by decide +kernel
set_option maxRecDepth 20000 in
theorem dX15_sumOf_21 : decode cX15_sumOf 21 = .ok (.bipush 8, 2) := by decide +kernel
set_option maxRecDepth 20000 in
theorem dX15_sumOf_23 : decode cX15_sumOf 23 = .ok (.if_icmp .ge 37, 3) := by decide +kernel
set_option maxRecDepth 20000 in
theorem dX15_sumOf_26 : decode cX15_sumOf 26 = .ok (.iload_n 2, 1) := by decide +kernel
set_option maxRecDepth 20000 in
theorem dX15_sumOf_27 : decode cX15_sumOf 27 = .ok (.iconst 2, 1) := by decide +kernel
set_option maxRecDepth 20000 in
theorem dX15_sumOf_28 : decode cX15_sumOf 28 = .ok (.irem, 1) := by decide +kernel
set_option maxRecDepth 20000 in
theorem dX15_sumOf_29 : decode cX15_sumOf 29 = .ok (.iconst 1, 1) := by decide +kernel
set_option maxRecDepth 20000 in
theorem dX15_sumOf_30 : decode cX15_sumOf 30 = .ok (.if_icmp .ne 7, 3) := by decide +kernel
set_option maxRecDepth 20000 in
theorem dX15_sumOf_33 : decode cX15_sumOf 33 = .ok (.iconst 1, 1) := by decide +kernel
set_option maxRecDepth 20000 in
theorem dX15_sumOf_34 : decode cX15_sumOf 34 = .ok (.goto 4, 3) := by decide +kernel
set_option maxRecDepth 20000 in
theorem dX15_sumOf_37 : decode cX15_sumOf 37 = .ok (.iconst 0, 1) := by decide +kernel
set_option maxRecDepth 20000 in
theorem dX15_sumOf_38 : decode cX15_sumOf 38 = .ok (.istore 5, 2) := by decide +kernel
set_option maxRecDepth 20000 in
theorem dX15_sumOf_40 : decode cX15_sumOf 40 = .ok (.iload_n 2, 1) := by decide +kernel
set_option maxRecDepth 20000 in
theorem dX15_sumOf_41 : decode cX15_sumOf 41 = .ok (.iconst 2, 1) := by decide +kernel
set_option maxRecDepth 20000 in
theorem dX15_sumOf_42 : decode cX15_sumOf 42 = .ok (.idiv, 1) := by decide +kernel
set_option maxRecDepth 20000 in
theorem dX15_sumOf_43 : decode cX15_sumOf 43 = .ok (.istore_n 2, 1) := by decide +kernel
set_option maxRecDepth 20000 in
theorem dX15_sumOf_44 : decode cX15_sumOf 44 = .ok (.iload 5, 2) := by decide +kernel
set_option maxRecDepth 20000 in
theorem dX15_sumOf_46 : decode cX15_sumOf 46 = .ok (.ifCond .eq 8, 3) := by decide +kernel
set_option maxRecDepth 20000 in
theorem dX15_sumOf_49 : decode cX15_sumOf 49 = .ok (.iload_n 2, 1) := by decide +kernel
set_option maxRecDepth 20000 in
theorem dX15_sumOf_50 : decode cX15_sumOf 50 = .ok (.ldc 77, 2) := by decide +kernel
set_option maxRecDepth 20000 in
theorem dX15_sumOf_52 : decode cX15_sumOf 52 = .ok (.ixor, 1) := by decide +kernel
set_option maxRecDepth 20000 in
theorem dX15_sumOf_53 : decode cX15_sumOf 53 = .ok (.istore_n 2, 1) := by decide +kernel
set_option maxRecDepth 20000 in
theorem dX15_sumOf_54 : decode cX15_sumOf 54 = .ok (.iinc 4 1, 3) := by decide +kernel
set_option maxRecDepth 20000 in
theorem dX15_sumOf_57 : decode cX15_sumOf 57 = .ok (.goto (-38), 3) := by decide +kernel
set_option maxRecDepth 20000 in
theorem dX15_sumOf_60 : decode cX15_sumOf 60 = .ok (.iinc 3 1, 3) := by decide +kernel
set_option maxRecDepth 20000 in
theorem dX15_sumOf_63 : decode cX15_sumOf 63 = .ok (.goto (-58), 3) := by decide +kernel
set_option maxRecDepth 20000 in
theorem dX15_sumOf_66 : decode cX15_sumOf 66 = .ok (.iload_n 2, 1) := by decide +kernel
set_option maxRecDepth 20000 in
theorem dX15_sumOf_67 : decode cX15_sumOf 67 = .ok (.ireturn, 1) := by decide +kernel
set_option maxRecDepth 20000 in
theorem dX15_two_0 : decode cX15_two 0 = .ok (.sipush 256, 3) := by decide +kernel
set_option maxRecDepth 20000 in
theorem dX15_two_3 : decode cX15_two 3 = .ok (.aload_n 0, 1) := by decide +kernel
set_option maxRecDepth 20000 in
theorem dX15_two_4 : decode cX15_two 4 = .ok (.iload_n 1, 1) := by decide +kernel
set_option maxRecDepth 20000 in
theorem dX15_two_5 : decode cX15_two 5 = .ok (.iaload, 1) := by decide +kernel
set_option maxRecDepth 20000 in
theorem dX15_two_6 : decode cX15_two 6 = .ok (.imul, 1) := by decide +kernel
set_option maxRecDepth 20000 in
theorem dX15_two_7 : decode cX15_two 7 = .ok (.aload_n 0, 1) := by decide +kernel
set_option maxRecDepth 20000 in
theorem dX15_two_8 : decode cX15_two 8 = .ok (.iload_n 1, 1) := by decide +kernel
set_option maxRecDepth 20000 in
theorem dX15_two_9 : decode cX15_two 9 = .ok (.iconst 1, 1) := by decide +kernel
set_option maxRecDepth 20000 in
theorem dX15_two_10 : decode cX15_two 10 = .ok (.iadd, 1) := by decide +kernel
set_option maxRecDepth 20000 in
theorem dX15_two_11 : decode cX15_two 11 = .ok (.iaload, 1) := by decide +kernel
set_option maxRecDepth 20000 in
theorem dX15_two_12 : decode cX15_two 12 = .ok (.iadd, 1) := by decide +kernel
set_option maxRecDepth 20000 in
theorem dX15_two_13 : decode cX15_two 13 = .ok (.ireturn, 1) := by decide +kernel
set_option maxRecDepth 20000 in
theorem dX15_isDevice_0 : decode cX15_isDevice 0 = .ok (.iload_n 1, 1) := by decide +kernel
set_option maxRecDepth 20000 in
theorem dX15_isDevice_1 : decode cX15_isDevice 1 = .ok (.iconst 0, 1) := by decide +kernel
set_option maxRecDepth 20000 in
theorem dX15_isDevice_2 : decode cX15_isDevice 2 = .ok (.aload_n 0, 1) := by decide +kernel
set_option maxRecDepth 20000 in
theorem dX15_isDevice_3 : decode cX15_isDevice 3 = .ok (.getfield 78, 3) := by decide +kernel
set_option maxRecDepth 20000 in
theorem dX15_isDevice_6 : decode cX15_isDevice 6 = .ok (.iconst 1, 1) := by decide +kernel
set_option maxRecDepth 20000 in
theorem dX15_isDevice_7 : decode cX15_isDevice 7 = .ok (.isub, 1) := by decide +kernel
set_option maxRecDepth 20000 in
theorem dX15_isDevice_8 : decode cX15_isDevice 8 = .ok (.invokestatic 81, 3) := by decide +kernel
set_option maxRecDepth 20000 in
theorem dX15_isDevice_11 : decode cX15_isDevice 11 = .ok (.ireturn, 1) := by decide +kernel
set_option maxRecDepth 20000 in
theorem dX15_isShaped_0 : decode cX15_isShaped 0 = .ok (.aload_n 0, 1) := by decide +kernel
set_option maxRecDepth 20000 in
theorem dX15_isShaped_1 : decode cX15_isShaped 1 = .ok (.iconst 0, 1) := by decide +kernel
set_option maxRecDepth 20000 in
theorem dX15_isShaped_2 : decode cX15_isShaped 2 = .ok (.iaload, 1) := by decide +kernel
set_option maxRecDepth 20000 in
theorem dX15_isShaped_3 : decode cX15_isShaped 3 = .ok (.tableswitch 691 1 43 #[185, 185, 211, 211, 236, 236, 247, 258, 691, 691, 247, 247, 691, 691, 318, 372, 247, 691, 691, 421, 502, 571, 583, 650, 691, 691, 691, 691, 691, 691, 691, 691, 691, 691, 691, 691, 691, 691, 691, 691, 691, 691, 661], 185) := by decide +kernel
set_option maxRecDepth 20000 in
theorem dX15_isShaped_188 : decode cX15_isShaped 188 = .ok (.iload_n 1, 1) := by decide +kernel
set_option maxRecDepth 20000 in
theorem dX15_isShaped_189 : decode cX15_isShaped 189 = .ok (.iconst 5, 1) := by decide +kernel
set_option maxRecDepth 20000 in
theorem dX15_isShaped_190 : decode cX15_isShaped 190 = .ok (.if_icmp .ne 22, 3) := by decide +kernel
set_option maxRecDepth 20000 in
theorem dX15_isShaped_193 : decode cX15_isShaped 193 = .ok (.aload_n 0, 1) := by decide +kernel
set_option maxRecDepth 20000 in
theorem dX15_isShaped_194 : decode cX15_isShaped 194 = .ok (.iconst 3, 1) := by decide +kernel
set_option maxRecDepth 20000 in
theorem dX15_isShaped_195 : decode cX15_isShaped 195 = .ok (.invokestatic 85, 3) := by decide +kernel
set_option maxRecDepth 20000 in
theorem dX15_isShaped_198 : decode cX15_isShaped 198 = .ok (.iconst 1, 1) := by decide +kernel
set_option maxRecDepth 20000 in
theorem dX15_isShaped_199 : decode cX15_isShaped 199 = .ok (.sipush 2000, 3) := by decide +kernel
set_option maxRecDepth 20000 in
theorem dX15_isShaped_202 : decode cX15_isShaped 202 = .ok (.invokestatic 81, 3) := by decide +kernel
set_option maxRecDepth 20000 in
theorem dX15_isShaped_205 : decode cX15_isShaped 205 = .ok (.ifCond .eq 7, 3) := by decide +kernel
set_option maxRecDepth 20000 in
theorem dX15_isShaped_208 : decode cX15_isShaped 208 = .ok (.iconst 1, 1) := by decide +kernel
set_option maxRecDepth 20000 in
theorem dX15_isShaped_209 : decode cX15_isShaped 209 = .ok (.goto 4, 3) := by decide +kernel
set_option maxRecDepth 20000 in
theorem dX15_isShaped_212 : decode cX15_isShaped 212 = .ok (.iconst 0, 1) := by decide +kernel
set_option maxRecDepth 20000 in
theorem dX15_isShaped_213 : decode cX15_isShaped 213 = .ok (.ireturn, 1) := by decide +kernel
set_option maxRecDepth 20000 in
theorem dX15_isShaped_214 : decode cX15_isShaped 214 = .ok (.iload_n 1, 1) := by decide +kernel
set_option maxRecDepth 20000 in
theorem dX15_isShaped_215 : decode cX15_isShaped 215 = .ok (.iconst 5, 1) := by decide +kernel
set_option maxRecDepth 20000 in
theorem dX15_isShaped_216 : decode cX15_isShaped 216 = .ok (.if_icmp .ne 21, 3) := by decide +kernel
set_option maxRecDepth 20000 in
theorem dX15_isShaped_219 : decode cX15_isShaped 219 = .ok (.aload_n 0, 1) := by decide +kernel
set_option maxRecDepth 20000 in
theorem dX15_isShaped_220 : decode cX15_isShaped 220 = .ok (.iconst 3, 1) := by decide +kernel
set_option maxRecDepth 20000 in
theorem dX15_isShaped_221 : decode cX15_isShaped 221 = .ok (.invokestatic 85, 3) := by decide +kernel
set_option maxRecDepth 20000 in
theorem dX15_isShaped_224 : decode cX15_isShaped 224 = .ok (.iconst 1, 1) := by decide +kernel
set_option maxRecDepth 20000 in
theorem dX15_isShaped_225 : decode cX15_isShaped 225 = .ok (.bipush 125, 2) := by decide +kernel
set_option maxRecDepth 20000 in
theorem dX15_isShaped_227 : decode cX15_isShaped 227 = .ok (.invokestatic 81, 3) := by decide +kernel
set_option maxRecDepth 20000 in
theorem dX15_isShaped_230 : decode cX15_isShaped 230 = .ok (.ifCond .eq 7, 3) := by decide +kernel
set_option maxRecDepth 20000 in
theorem dX15_isShaped_233 : decode cX15_isShaped 233 = .ok (.iconst 1, 1) := by decide +kernel
set_option maxRecDepth 20000 in
theorem dX15_isShaped_234 : decode cX15_isShaped 234 = .ok (.goto 4, 3) := by decide +kernel
set_option maxRecDepth 20000 in
theorem dX15_isShaped_237 : decode cX15_isShaped 237 = .ok (.iconst 0, 1) := by decide +kernel
set_option maxRecDepth 20000 in
theorem dX15_isShaped_238 : decode cX15_isShaped 238 = .ok (.ireturn, 1) := by decide +kernel
set_option maxRecDepth 20000 in
theorem dX15_isShaped_239 : decode cX15_isShaped 239 = .ok (.iload_n 1, 1) := by decide +kernel
set_option maxRecDepth 20000 in
theorem dX15_isShaped_240 : decode cX15_isShaped 240 = .ok (.iconst 5, 1) := by decide +kernel
set_option maxRecDepth 20000 in
theorem dX15_isShaped_241 : decode cX15_isShaped 241 = .ok (.if_icmp .ne 7, 3) := by decide +kernel
set_option maxRecDepth 20000 in
theorem dX15_isShaped_244 : decode cX15_isShaped 244 = .ok (.iconst 1, 1) := by decide +kernel
set_option maxRecDepth 20000 in
theorem dX15_isShaped_245 : decode cX15_isShaped 245 = .ok (.goto 4, 3) := by decide +kernel
set_option maxRecDepth 20000 in
theorem dX15_isShaped_248 : decode cX15_isShaped 248 = .ok (.iconst 0, 1) := by decide +kernel
set_option maxRecDepth 20000 in
theorem dX15_isShaped_249 : decode cX15_isShaped 249 = .ok (.ireturn, 1) := by decide +kernel
set_option maxRecDepth 20000 in
theorem dX15_isShaped_250 : decode cX15_isShaped 250 = .ok (.iload_n 1, 1) := by decide +kernel
set_option maxRecDepth 20000 in
theorem dX15_isShaped_251 : decode cX15_isShaped 251 = .ok (.iconst 1, 1) := by decide +kernel
set_option maxRecDepth 20000 in
theorem dX15_isShaped_252 : decode cX15_isShaped 252 = .ok (.if_icmp .ne 7, 3) := by decide +kernel
set_option maxRecDepth 20000 in
theorem dX15_isShaped_255 : decode cX15_isShaped 255 = .ok (.iconst 1, 1) := by decide +kernel
set_option maxRecDepth 20000 in
theorem dX15_isShaped_256 : decode cX15_isShaped 256 = .ok (.goto 4, 3) := by decide +kernel
set_option maxRecDepth 20000 in
theorem dX15_isShaped_259 : decode cX15_isShaped 259 = .ok (.iconst 0, 1) := by decide +kernel
set_option maxRecDepth 20000 in
theorem dX15_isShaped_260 : decode cX15_isShaped 260 = .ok (.ireturn, 1) := by decide +kernel
set_option maxRecDepth 20000 in
theorem dX15_isShaped_261 : decode cX15_isShaped 261 = .ok (.iload_n 1, 1) := by decide +kernel
set_option maxRecDepth 20000 in
theorem dX15_isShaped_262 : decode cX15_isShaped 262 = .ok (.iconst 3, 1) := by decide +kernel
set_option maxRecDepth 20000 in
theorem dX15_isShaped_263 : decode cX15_isShaped 263 = .ok (.if_icmp .ge 5, 3) := by decide +kernel
set_option maxRecDepth 20000 in
theorem dX15_isShaped_266 : decode cX15_isShaped 266 = .ok (.iconst 0, 1) := by decide +kernel
set_option maxRecDepth 20000 in
theorem dX15_isShaped_267 : decode cX15_isShaped 267 = .ok (.ireturn, 1) := by decide +kernel
set_option maxRecDepth 20000 in
theorem dX15_isShaped_268 : decode cX15_isShaped 268 = .ok (.aload_n 0, 1) := by decide +kernel
set_option maxRecDepth 20000 in
theorem dX15_isShaped_269 : decode cX15_isShaped 269 = .ok (.iconst 1, 1) := by decide +kernel
set_option maxRecDepth 20000 in
theorem dX15_isShaped_270 : decode cX15_isShaped 270 = .ok (.invokestatic 85, 3) := by decide +kernel
set_option maxRecDepth 20000 in
theorem dX15_isShaped_273 : decode cX15_isShaped 273 = .ok (.istore_n 2, 1) := by decide +kernel
set_option maxRecDepth 20000 in
theorem dX15_isShaped_274 : decode cX15_isShaped 274 = .ok (.iload_n 2, 1) := by decide +kernel
set_option maxRecDepth 20000 in
theorem dX15_isShaped_275 : decode cX15_isShaped 275 = .ok (.ifCond .eq 40, 3) := by decide +kernel
set_option maxRecDepth 20000 in
theorem dX15_isShaped_278 : decode cX15_isShaped 278 = .ok (.iload_n 1, 1) := by decide +kernel
set_option maxRecDepth 20000 in
theorem dX15_isShaped_279 : decode cX15_isShaped 279 = .ok (.iconst 5, 1) := by decide +kernel
set_option maxRecDepth 20000 in
theorem dX15_isShaped_280 : decode cX15_isShaped 280 = .ok (.if_icmp .ne 39, 3) := by decide +kernel
set_option maxRecDepth 20000 in
theorem dX15_isShaped_283 : decode cX15_isShaped 283 = .ok (.iload_n 2, 1) := by decide +kernel
set_option maxRecDepth 20000 in
theorem dX15_isShaped_284 : decode cX15_isShaped 284 = .ok (.iconst 1, 1) := by decide +kernel
set_option maxRecDepth 20000 in
theorem dX15_isShaped_285 : decode cX15_isShaped 285 = .ok (.if_icmp .eq 30, 3) := by decide +kernel
set_option maxRecDepth 20000 in
theorem dX15_isShaped_288 : decode cX15_isShaped 288 = .ok (.iload_n 2, 1) := by decide +kernel
set_option maxRecDepth 20000 in
theorem dX15_isShaped_289 : decode cX15_isShaped 289 = .ok (.iconst 2, 1) := by decide +kernel
set_option maxRecDepth 20000 in
theorem dX15_isShaped_290 : decode cX15_isShaped 290 = .ok (.if_icmp .eq 25, 3) := by decide +kernel
set_option maxRecDepth 20000 in
theorem dX15_isShaped_293 : decode cX15_isShaped 293 = .ok (.iload_n 2, 1) := by decide +kernel
set_option maxRecDepth 20000 in
theorem dX15_isShaped_294 : decode cX15_isShaped 294 = .ok (.iconst 4, 1) := by decide +kernel
set_option maxRecDepth 20000 in
theorem dX15_isShaped_295 : decode cX15_isShaped 295 = .ok (.if_icmp .eq 20, 3) := by decide +kernel
set_option maxRecDepth 20000 in
theorem dX15_isShaped_298 : decode cX15_isShaped 298 = .ok (.iload_n 2, 1) := by decide +kernel
set_option maxRecDepth 20000 in
theorem dX15_isShaped_299 : decode cX15_isShaped 299 = .ok (.bipush 10, 2) := by decide +kernel
set_option maxRecDepth 20000 in
theorem dX15_isShaped_301 : decode cX15_isShaped 301 = .ok (.bipush 18, 2) := by decide +kernel
set_option maxRecDepth 20000 in
theorem dX15_isShaped_303 : decode cX15_isShaped 303 = .ok (.invokestatic 81, 3) := by decide +kernel
set_option maxRecDepth 20000 in
theorem dX15_isShaped_306 : decode cX15_isShaped 306 = .ok (.ifCond .ne 9, 3) := by decide +kernel
set_option maxRecDepth 20000 in
theorem dX15_isShaped_309 : decode cX15_isShaped 309 = .ok (.iload_n 2, 1) := by decide +kernel
set_option maxRecDepth 20000 in
theorem dX15_isShaped_310 : decode cX15_isShaped 310 = .ok (.bipush 20, 2) := by decide +kernel
set_option maxRecDepth 20000 in
theorem dX15_isShaped_312 : decode cX15_isShaped 312 = .ok (.if_icmp .ne 7, 3) := by decide +kernel
set_option maxRecDepth 20000 in
theorem dX15_isShaped_315 : decode cX15_isShaped 315 = .ok (.iconst 1, 1) := by decide +kernel
set_option maxRecDepth 20000 in
theorem dX15_isShaped_316 : decode cX15_isShaped 316 = .ok (.goto 4, 3) := by decide +kernel
set_option maxRecDepth 20000 in
theorem dX15_isShaped_319 : decode cX15_isShaped 319 = .ok (.iconst 0, 1) := by decide +kernel
set_option maxRecDepth 20000 in
theorem dX15_isShaped_320 : decode cX15_isShaped 320 = .ok (.ireturn, 1) := by decide +kernel
set_option maxRecDepth 20000 in
theorem dX15_isShaped_321 : decode cX15_isShaped 321 = .ok (.iload_n 1, 1) := by decide +kernel
set_option maxRecDepth 20000 in
theorem dX15_isShaped_322 : decode cX15_isShaped 322 = .ok (.bipush 6, 2) := by decide +kernel
set_option maxRecDepth 20000 in
theorem dX15_isShaped_324 : decode cX15_isShaped 324 = .ok (.if_icmp .lt 49, 3) := by decide +kernel
set_option maxRecDepth 20000 in
theorem dX15_isShaped_327 : decode cX15_isShaped 327 = .ok (.aload_n 0, 1) := by decide +kernel
set_option maxRecDepth 20000 in
theorem dX15_isShaped_328 : decode cX15_isShaped 328 = .ok (.iconst 3, 1) := by decide +kernel
set_option maxRecDepth 20000 in
theorem dX15_isShaped_329 : decode cX15_isShaped 329 = .ok (.invokestatic 85, 3) := by decide +kernel
set_option maxRecDepth 20000 in
theorem dX15_isShaped_332 : decode cX15_isShaped 332 = .ok (.iconst 1, 1) := by decide +kernel
set_option maxRecDepth 20000 in
theorem dX15_isShaped_333 : decode cX15_isShaped 333 = .ok (.sipush 1968, 3) := by decide +kernel
set_option maxRecDepth 20000 in
theorem dX15_isShaped_336 : decode cX15_isShaped 336 = .ok (.invokestatic 81, 3) := by decide +kernel
set_option maxRecDepth 20000 in
theorem dX15_isShaped_339 : decode cX15_isShaped 339 = .ok (.ifCond .eq 34, 3) := by decide +kernel
set_option maxRecDepth 20000 in
theorem dX15_isShaped_342 : decode cX15_isShaped 342 = .ok (.aload_n 0, 1) := by decide +kernel
set_option maxRecDepth 20000 in
theorem dX15_isShaped_343 : decode cX15_isShaped 343 = .ok (.iconst 5, 1) := by decide +kernel
set_option maxRecDepth 20000 in
theorem dX15_isShaped_344 : decode cX15_isShaped 344 = .ok (.iaload, 1) := by decide +kernel
set_option maxRecDepth 20000 in
theorem dX15_isShaped_345 : decode cX15_isShaped 345 = .ok (.aload_n 0, 1) := by decide +kernel
set_option maxRecDepth 20000 in
theorem dX15_isShaped_346 : decode cX15_isShaped 346 = .ok (.iconst 3, 1) := by decide +kernel
set_option maxRecDepth 20000 in
theorem dX15_isShaped_347 : decode cX15_isShaped 347 = .ok (.invokestatic 85, 3) := by decide +kernel
set_option maxRecDepth 20000 in
theorem dX15_isShaped_350 : decode cX15_isShaped 350 = .ok (.bipush 7, 2) := by decide +kernel
set_option maxRecDepth 20000 in
theorem dX15_isShaped_352 : decode cX15_isShaped 352 = .ok (.iadd, 1) := by decide +kernel
set_option maxRecDepth 20000 in
theorem dX15_isShaped_353 : decode cX15_isShaped 353 = .ok (.bipush 8, 2) := by decide +kernel
set_option maxRecDepth 20000 in
theorem dX15_isShaped_355 : decode cX15_isShaped 355 = .ok (.idiv, 1) := by decide +kernel
set_option maxRecDepth 20000 in
theorem dX15_isShaped_356 : decode cX15_isShaped 356 = .ok (.if_icmp .ne 17, 3) := by decide +kernel
set_option maxRecDepth 20000 in
theorem dX15_isShaped_359 : decode cX15_isShaped 359 = .ok (.iload_n 1, 1) := by decide +kernel
set_option maxRecDepth 20000 in
theorem dX15_isShaped_360 : decode cX15_isShaped 360 = .ok (.bipush 6, 2) := by decide +kernel
set_option maxRecDepth 20000 in
theorem dX15_isShaped_362 : decode cX15_isShaped 362 = .ok (.aload_n 0, 1) := by decide +kernel
set_option maxRecDepth 20000 in
theorem dX15_isShaped_363 : decode cX15_isShaped 363 = .ok (.iconst 5, 1) := by decide +kernel
set_option maxRecDepth 20000 in
theorem dX15_isShaped_364 : decode cX15_isShaped 364 = .ok (.iaload, 1) := by decide +kernel
set_option maxRecDepth 20000 in
theorem dX15_isShaped_365 : decode cX15_isShaped 365 = .ok (.iadd, 1) := by decide +kernel
set_option maxRecDepth 20000 in
theorem dX15_isShaped_366 : decode cX15_isShaped 366 = .ok (.if_icmp .ne 7, 3) := by decide +kernel
set_option maxRecDepth 20000 in
theorem dX15_isShaped_369 : decode cX15_isShaped 369 = .ok (.iconst 1, 1) := by decide +kernel
set_option maxRecDepth 20000 in
theorem dX15_isShaped_370 : decode cX15_isShaped 370 = .ok (.goto 4, 3) := by decide +kernel
set_option maxRecDepth 20000 in
theorem dX15_isShaped_373 : decode cX15_isShaped 373 = .ok (.iconst 0, 1) := by decide +kernel
set_option maxRecDepth 20000 in
theorem dX15_isShaped_374 : decode cX15_isShaped 374 = .ok (.ireturn, 1) := by decide +kernel
set_option maxRecDepth 20000 in
theorem dX15_isShaped_375 : decode cX15_isShaped 375 = .ok (.iload_n 1, 1) := by decide +kernel
set_option maxRecDepth 20000 in
theorem dX15_isShaped_376 : decode cX15_isShaped 376 = .ok (.bipush 6, 2) := by decide +kernel
set_option maxRecDepth 20000 in
theorem dX15_isShaped_378 : decode cX15_isShaped 378 = .ok (.if_icmp .lt 44, 3) := by decide +kernel
set_option maxRecDepth 20000 in
theorem dX15_isShaped_381 : decode cX15_isShaped 381 = .ok (.aload_n 0, 1) := by decide +kernel
set_option maxRecDepth 20000 in
theorem dX15_isShaped_382 : decode cX15_isShaped 382 = .ok (.iconst 3, 1) := by decide +kernel
set_option maxRecDepth 20000 in
theorem dX15_isShaped_383 : decode cX15_isShaped 383 = .ok (.invokestatic 85, 3) := by decide +kernel
set_option maxRecDepth 20000 in
theorem dX15_isShaped_386 : decode cX15_isShaped 386 = .ok (.iconst 1, 1) := by decide +kernel
set_option maxRecDepth 20000 in
theorem dX15_isShaped_387 : decode cX15_isShaped 387 = .ok (.bipush 123, 2) := by decide +kernel
set_option maxRecDepth 20000 in
theorem dX15_isShaped_389 : decode cX15_isShaped 389 = .ok (.invokestatic 81, 3) := by decide +kernel
set_option maxRecDepth 20000 in
theorem dX15_isShaped_392 : decode cX15_isShaped 392 = .ok (.ifCond .eq 30, 3) := by decide +kernel
set_option maxRecDepth 20000 in
theorem dX15_isShaped_395 : decode cX15_isShaped 395 = .ok (.aload_n 0, 1) := by decide +kernel
set_option maxRecDepth 20000 in
theorem dX15_isShaped_396 : decode cX15_isShaped 396 = .ok (.iconst 5, 1) := by decide +kernel
set_option maxRecDepth 20000 in
theorem dX15_isShaped_397 : decode cX15_isShaped 397 = .ok (.iaload, 1) := by decide +kernel
set_option maxRecDepth 20000 in
theorem dX15_isShaped_398 : decode cX15_isShaped 398 = .ok (.iconst 2, 1) := by decide +kernel
set_option maxRecDepth 20000 in
theorem dX15_isShaped_399 : decode cX15_isShaped 399 = .ok (.aload_n 0, 1) := by decide +kernel
set_option maxRecDepth 20000 in
theorem dX15_isShaped_400 : decode cX15_isShaped 400 = .ok (.iconst 3, 1) := by decide +kernel
set_option maxRecDepth 20000 in
theorem dX15_isShaped_401 : decode cX15_isShaped 401 = .ok (.invokestatic 85, 3) := by decide +kernel
set_option maxRecDepth 20000 in
theorem dX15_isShaped_404 : decode cX15_isShaped 404 = .ok (.imul, 1) := by decide +kernel
set_option maxRecDepth 20000 in
theorem dX15_isShaped_405 : decode cX15_isShaped 405 = .ok (.if_icmp .ne 17, 3) := by decide +kernel
set_option maxRecDepth 20000 in
theorem dX15_isShaped_408 : decode cX15_isShaped 408 = .ok (.iload_n 1, 1) := by decide +kernel
set_option maxRecDepth 20000 in
theorem dX15_isShaped_409 : decode cX15_isShaped 409 = .ok (.bipush 6, 2) := by decide +kernel
set_option maxRecDepth 20000 in
theorem dX15_isShaped_411 : decode cX15_isShaped 411 = .ok (.aload_n 0, 1) := by decide +kernel
set_option maxRecDepth 20000 in
theorem dX15_isShaped_412 : decode cX15_isShaped 412 = .ok (.iconst 5, 1) := by decide +kernel
set_option maxRecDepth 20000 in
theorem dX15_isShaped_413 : decode cX15_isShaped 413 = .ok (.iaload, 1) := by decide +kernel
set_option maxRecDepth 20000 in
theorem dX15_isShaped_414 : decode cX15_isShaped 414 = .ok (.iadd, 1) := by decide +kernel
set_option maxRecDepth 20000 in
theorem dX15_isShaped_415 : decode cX15_isShaped 415 = .ok (.if_icmp .ne 7, 3) := by decide +kernel
set_option maxRecDepth 20000 in
theorem dX15_isShaped_418 : decode cX15_isShaped 418 = .ok (.iconst 1, 1) := by decide +kernel
set_option maxRecDepth 20000 in
theorem dX15_isShaped_419 : decode cX15_isShaped 419 = .ok (.goto 4, 3) := by decide +kernel
set_option maxRecDepth 20000 in
theorem dX15_isShaped_422 : decode cX15_isShaped 422 = .ok (.iconst 0, 1) := by decide +kernel
set_option maxRecDepth 20000 in
theorem dX15_isShaped_423 : decode cX15_isShaped 423 = .ok (.ireturn, 1) := by decide +kernel
set_option maxRecDepth 20000 in
theorem dX15_isShaped_424 : decode cX15_isShaped 424 = .ok (.iload_n 1, 1) := by decide +kernel
set_option maxRecDepth 20000 in
theorem dX15_isShaped_425 : decode cX15_isShaped 425 = .ok (.iconst 2, 1) := by decide +kernel
set_option maxRecDepth 20000 in
theorem dX15_isShaped_426 : decode cX15_isShaped 426 = .ok (.if_icmp .lt 35, 3) := by decide +kernel
set_option maxRecDepth 20000 in
theorem dX15_isShaped_429 : decode cX15_isShaped 429 = .ok (.aload_n 0, 1) := by decide +kernel
set_option maxRecDepth 20000 in
theorem dX15_isShaped_430 : decode cX15_isShaped 430 = .ok (.iconst 1, 1) := by decide +kernel
set_option maxRecDepth 20000 in
theorem dX15_isShaped_431 : decode cX15_isShaped 431 = .ok (.iaload, 1) := by decide +kernel
set_option maxRecDepth 20000 in
theorem dX15_isShaped_432 : decode cX15_isShaped 432 = .ok (.bipush 7, 2) := by decide +kernel
set_option maxRecDepth 20000 in
theorem dX15_isShaped_434 : decode cX15_isShaped 434 = .ok (.sipush 245, 3) := by decide +kernel
set_option maxRecDepth 20000 in
theorem dX15_isShaped_437 : decode cX15_isShaped 437 = .ok (.invokestatic 81, 3) := by decide +kernel
set_option maxRecDepth 20000 in
theorem dX15_isShaped_440 : decode cX15_isShaped 440 = .ok (.ifCond .eq 21, 3) := by decide +kernel
set_option maxRecDepth 20000 in
theorem dX15_isShaped_443 : decode cX15_isShaped 443 = .ok (.aload_n 0, 1) := by decide +kernel
set_option maxRecDepth 20000 in
theorem dX15_isShaped_444 : decode cX15_isShaped 444 = .ok (.iconst 1, 1) := by decide +kernel
set_option maxRecDepth 20000 in
theorem dX15_isShaped_445 : decode cX15_isShaped 445 = .ok (.iaload, 1) := by decide +kernel
set_option maxRecDepth 20000 in
theorem dX15_isShaped_446 : decode cX15_isShaped 446 = .ok (.bipush 7, 2) := by decide +kernel
set_option maxRecDepth 20000 in
theorem dX15_isShaped_448 : decode cX15_isShaped 448 = .ok (.irem, 1) := by decide +kernel
set_option maxRecDepth 20000 in
theorem dX15_isShaped_449 : decode cX15_isShaped 449 = .ok (.ifCond .ne 12, 3) := by decide +kernel
set_option maxRecDepth 20000 in
theorem dX15_isShaped_452 : decode cX15_isShaped 452 = .ok (.iload_n 1, 1) := by decide +kernel
set_option maxRecDepth 20000 in
theorem dX15_isShaped_453 : decode cX15_isShaped 453 = .ok (.iconst 2, 1) := by decide +kernel
set_option maxRecDepth 20000 in
theorem dX15_isShaped_454 : decode cX15_isShaped 454 = .ok (.aload_n 0, 1) := by decide +kernel
set_option maxRecDepth 20000 in
theorem dX15_isShaped_455 : decode cX15_isShaped 455 = .ok (.iconst 1, 1) := by decide +kernel
set_option maxRecDepth 20000 in
theorem dX15_isShaped_456 : decode cX15_isShaped 456 = .ok (.iaload, 1) := by decide +kernel
set_option maxRecDepth 20000 in
theorem dX15_isShaped_457 : decode cX15_isShaped 457 = .ok (.iadd, 1) := by decide +kernel
set_option maxRecDepth 20000 in
theorem dX15_isShaped_458 : decode cX15_isShaped 458 = .ok (.if_icmp .eq 5, 3) := by decide +kernel
set_option maxRecDepth 20000 in
theorem dX15_isShaped_461 : decode cX15_isShaped 461 = .ok (.iconst 0, 1) := by decide +kernel
set_option maxRecDepth 20000 in
theorem dX15_isShaped_462 : decode cX15_isShaped 462 = .ok (.ireturn, 1) := by decide +kernel
set_option maxRecDepth 20000 in
theorem dX15_isShaped_463 : decode cX15_isShaped 463 = .ok (.iconst 2, 1) := by decide +kernel
set_option maxRecDepth 20000 in
theorem dX15_isShaped_464 : decode cX15_isShaped 464 = .ok (.istore_n 2, 1) := by decide +kernel
set_option maxRecDepth 20000 in
theorem dX15_isShaped_465 : decode cX15_isShaped 465 = .ok (.iconst 2, 1) := by decide +kernel
set_option maxRecDepth 20000 in
theorem dX15_isShaped_466 : decode cX15_isShaped 466 = .ok (.istore_n 3, 1) := by decide +kernel
set_option maxRecDepth 20000 in
theorem dX15_isShaped_467 : decode cX15_isShaped 467 = .ok (.iload_n 3, 1) := by decide +kernel
set_option maxRecDepth 20000 in
theorem dX15_isShaped_468 : decode cX15_isShaped 468 = .ok (.iload_n 1, 1) := by decide +kernel
set_option maxRecDepth 20000 in
theorem dX15_isShaped_469 : decode cX15_isShaped 469 = .ok (.if_icmp .ge 23, 3) := by decide +kernel
set_option maxRecDepth 20000 in
theorem dX15_isShaped_472 : decode cX15_isShaped 472 = .ok (.iload_n 2, 1) := by decide +kernel
set_option maxRecDepth 20000 in
theorem dX15_isShaped_473 : decode cX15_isShaped 473 = .ok (.iconst 2, 1) := by decide +kernel
set_option maxRecDepth 20000 in
theorem dX15_isShaped_474 : decode cX15_isShaped 474 = .ok (.iconst 2, 1) := by decide +kernel
set_option maxRecDepth 20000 in
theorem dX15_isShaped_475 : decode cX15_isShaped 475 = .ok (.aload_n 0, 1) := by decide +kernel
set_option maxRecDepth 20000 in
theorem dX15_isShaped_476 : decode cX15_isShaped 476 = .ok (.iload_n 3, 1) := by decide +kernel
set_option maxRecDepth 20000 in
theorem dX15_isShaped_477 : decode cX15_isShaped 477 = .ok (.iconst 5, 1) := by decide +kernel
set_option maxRecDepth 20000 in
theorem dX15_isShaped_478 : decode cX15_isShaped 478 = .ok (.iadd, 1) := by decide +kernel
set_option maxRecDepth 20000 in
theorem dX15_isShaped_479 : decode cX15_isShaped 479 = .ok (.invokestatic 85, 3) := by decide +kernel
set_option maxRecDepth 20000 in
theorem dX15_isShaped_482 : decode cX15_isShaped 482 = .ok (.imul, 1) := by decide +kernel
set_option maxRecDepth 20000 in
theorem dX15_isShaped_483 : decode cX15_isShaped 483 = .ok (.iadd, 1) := by decide +kernel
set_option maxRecDepth 20000 in
theorem dX15_isShaped_484 : decode cX15_isShaped 484 = .ok (.iadd, 1) := by decide +kernel
set_option maxRecDepth 20000 in
theorem dX15_isShaped_485 : decode cX15_isShaped 485 = .ok (.istore_n 2, 1) := by decide +kernel
set_option maxRecDepth 20000 in
theorem dX15_isShaped_486 : decode cX15_isShaped 486 = .ok (.iinc 3 7, 3) := by decide +kernel
set_option maxRecDepth 20000 in
theorem dX15_isShaped_489 : decode cX15_isShaped 489 = .ok (.goto (-22), 3) := by decide +kernel
set_option maxRecDepth 20000 in
theorem dX15_isShaped_492 : decode cX15_isShaped 492 = .ok (.iload_n 2, 1) := by decide +kernel
set_option maxRecDepth 20000 in
theorem dX15_isShaped_493 : decode cX15_isShaped 493 = .ok (.sipush 253, 3) := by decide +kernel
set_option maxRecDepth 20000 in
theorem dX15_isShaped_496 : decode cX15_isShaped 496 = .ok (.if_icmp .gt 7, 3) := by decide +kernel
set_option maxRecDepth 20000 in
theorem dX15_isShaped_499 : decode cX15_isShaped 499 = .ok (.iconst 1, 1) := by decide +kernel
set_option maxRecDepth 20000 in
theorem dX15_isShaped_500 : decode cX15_isShaped 500 = .ok (.goto 4, 3) := by decide +kernel
set_option maxRecDepth 20000 in
theorem dX15_isShaped_503 : decode cX15_isShaped 503 = .ok (.iconst 0, 1) := by decide +kernel
set_option maxRecDepth 20000 in
theorem dX15_isShaped_504 : decode cX15_isShaped 504 = .ok (.ireturn, 1) := by decide +kernel
set_option maxRecDepth 20000 in
theorem dX15_isShaped_505 : decode cX15_isShaped 505 = .ok (.iload_n 1, 1) := by decide +kernel
set_option maxRecDepth 20000 in
theorem dX15_isShaped_506 : decode cX15_isShaped 506 = .ok (.iconst 2, 1) := by decide +kernel
set_option maxRecDepth 20000 in
theorem dX15_isShaped_507 : decode cX15_isShaped 507 = .ok (.if_icmp .lt 26, 3) := by decide +kernel
set_option maxRecDepth 20000 in
theorem dX15_isShaped_510 : decode cX15_isShaped 510 = .ok (.aload_n 0, 1) := by decide +kernel
set_option maxRecDepth 20000 in
theorem dX15_isShaped_511 : decode cX15_isShaped 511 = .ok (.iconst 1, 1) := by decide +kernel
set_option maxRecDepth 20000 in
theorem dX15_isShaped_512 : decode cX15_isShaped 512 = .ok (.iaload, 1) := by decide +kernel
set_option maxRecDepth 20000 in
theorem dX15_isShaped_513 : decode cX15_isShaped 513 = .ok (.bipush 9, 2) := by decide +kernel
set_option maxRecDepth 20000 in
theorem dX15_isShaped_515 : decode cX15_isShaped 515 = .ok (.sipush 251, 3) := by decide +kernel
set_option maxRecDepth 20000 in
theorem dX15_isShaped_518 : decode cX15_isShaped 518 = .ok (.invokestatic 81, 3) := by decide +kernel
set_option maxRecDepth 20000 in
theorem dX15_isShaped_521 : decode cX15_isShaped 521 = .ok (.ifCond .eq 12, 3) := by decide +kernel
set_option maxRecDepth 20000 in
theorem dX15_isShaped_524 : decode cX15_isShaped 524 = .ok (.iload_n 1, 1) := by decide +kernel
set_option maxRecDepth 20000 in
theorem dX15_isShaped_525 : decode cX15_isShaped 525 = .ok (.iconst 2, 1) := by decide +kernel
set_option maxRecDepth 20000 in
theorem dX15_isShaped_526 : decode cX15_isShaped 526 = .ok (.aload_n 0, 1) := by decide +kernel
set_option maxRecDepth 20000 in
theorem dX15_isShaped_527 : decode cX15_isShaped 527 = .ok (.iconst 1, 1) := by decide +kernel
set_option maxRecDepth 20000 in
theorem dX15_isShaped_528 : decode cX15_isShaped 528 = .ok (.iaload, 1) := by decide +kernel
set_option maxRecDepth 20000 in
theorem dX15_isShaped_529 : decode cX15_isShaped 529 = .ok (.iadd, 1) := by decide +kernel
set_option maxRecDepth 20000 in
theorem dX15_isShaped_530 : decode cX15_isShaped 530 = .ok (.if_icmp .eq 5, 3) := by decide +kernel
set_option maxRecDepth 20000 in
theorem dX15_isShaped_533 : decode cX15_isShaped 533 = .ok (.iconst 0, 1) := by decide +kernel
set_option maxRecDepth 20000 in
theorem dX15_isShaped_534 : decode cX15_isShaped 534 = .ok (.ireturn, 1) := by decide +kernel
set_option maxRecDepth 20000 in
theorem dX15_isShaped_535 : decode cX15_isShaped 535 = .ok (.iconst 2, 1) := by decide +kernel
set_option maxRecDepth 20000 in
theorem dX15_isShaped_536 : decode cX15_isShaped 536 = .ok (.istore_n 2, 1) := by decide +kernel
set_option maxRecDepth 20000 in
theorem dX15_isShaped_537 : decode cX15_isShaped 537 = .ok (.iload_n 2, 1) := by decide +kernel
set_option maxRecDepth 20000 in
theorem dX15_isShaped_538 : decode cX15_isShaped 538 = .ok (.bipush 7, 2) := by decide +kernel
set_option maxRecDepth 20000 in
theorem dX15_isShaped_540 : decode cX15_isShaped 540 = .ok (.iadd, 1) := by decide +kernel
set_option maxRecDepth 20000 in
theorem dX15_isShaped_541 : decode cX15_isShaped 541 = .ok (.iload_n 1, 1) := by decide +kernel
set_option maxRecDepth 20000 in
theorem dX15_isShaped_542 : decode cX15_isShaped 542 = .ok (.if_icmp .gt 21, 3) := by decide +kernel
set_option maxRecDepth 20000 in
theorem dX15_isShaped_545 : decode cX15_isShaped 545 = .ok (.iload_n 2, 1) := by decide +kernel
set_option maxRecDepth 20000 in
theorem dX15_isShaped_546 : decode cX15_isShaped 546 = .ok (.bipush 7, 2) := by decide +kernel
set_option maxRecDepth 20000 in
theorem dX15_isShaped_548 : decode cX15_isShaped 548 = .ok (.iconst 2, 1) := by decide +kernel
set_option maxRecDepth 20000 in
theorem dX15_isShaped_549 : decode cX15_isShaped 549 = .ok (.aload_n 0, 1) := by decide +kernel
set_option maxRecDepth 20000 in
theorem dX15_isShaped_550 : decode cX15_isShaped 550 = .ok (.iload_n 2, 1) := by decide +kernel
set_option maxRecDepth 20000 in
theorem dX15_isShaped_551 : decode cX15_isShaped 551 = .ok (.iconst 5, 1) := by decide +kernel
set_option maxRecDepth 20000 in
theorem dX15_isShaped_552 : decode cX15_isShaped 552 = .ok (.iadd, 1) := by decide +kernel
set_option maxRecDepth 20000 in
theorem dX15_isShaped_553 : decode cX15_isShaped 553 = .ok (.invokestatic 85, 3) := by decide +kernel
set_option maxRecDepth 20000 in
theorem dX15_isShaped_556 : decode cX15_isShaped 556 = .ok (.imul, 1) := by decide +kernel
set_option maxRecDepth 20000 in
theorem dX15_isShaped_557 : decode cX15_isShaped 557 = .ok (.iadd, 1) := by decide +kernel
set_option maxRecDepth 20000 in
theorem dX15_isShaped_558 : decode cX15_isShaped 558 = .ok (.iadd, 1) := by decide +kernel
set_option maxRecDepth 20000 in
theorem dX15_isShaped_559 : decode cX15_isShaped 559 = .ok (.istore_n 2, 1) := by decide +kernel
set_option maxRecDepth 20000 in
theorem dX15_isShaped_560 : decode cX15_isShaped 560 = .ok (.goto (-23), 3) := by decide +kernel
set_option maxRecDepth 20000 in
theorem dX15_isShaped_563 : decode cX15_isShaped 563 = .ok (.iload_n 2, 1) := by decide +kernel
set_option maxRecDepth 20000 in
theorem dX15_isShaped_564 : decode cX15_isShaped 564 = .ok (.iload_n 1, 1) := by decide +kernel
set_option maxRecDepth 20000 in
theorem dX15_isShaped_565 : decode cX15_isShaped 565 = .ok (.if_icmp .ne 7, 3) := by decide +kernel
set_option maxRecDepth 20000 in
theorem dX15_isShaped_568 : decode cX15_isShaped 568 = .ok (.iconst 1, 1) := by decide +kernel
set_option maxRecDepth 20000 in
theorem dX15_isShaped_569 : decode cX15_isShaped 569 = .ok (.goto 4, 3) := by decide +kernel
set_option maxRecDepth 20000 in
theorem dX15_isShaped_572 : decode cX15_isShaped 572 = .ok (.iconst 0, 1) := by decide +kernel
set_option maxRecDepth 20000 in
theorem dX15_isShaped_573 : decode cX15_isShaped 573 = .ok (.ireturn, 1) := by decide +kernel
set_option maxRecDepth 20000 in
theorem dX15_isShaped_574 : decode cX15_isShaped 574 = .ok (.iload_n 1, 1) := by decide +kernel
set_option maxRecDepth 20000 in
theorem dX15_isShaped_575 : decode cX15_isShaped 575 = .ok (.bipush 7, 2) := by decide +kernel
set_option maxRecDepth 20000 in
theorem dX15_isShaped_577 : decode cX15_isShaped 577 = .ok (.if_icmp .ne 7, 3) := by decide +kernel
set_option maxRecDepth 20000 in
theorem dX15_isShaped_580 : decode cX15_isShaped 580 = .ok (.iconst 1, 1) := by decide +kernel
set_option maxRecDepth 20000 in
theorem dX15_isShaped_581 : decode cX15_isShaped 581 = .ok (.goto 4, 3) := by decide +kernel
set_option maxRecDepth 20000 in
theorem dX15_isShaped_584 : decode cX15_isShaped 584 = .ok (.iconst 0, 1) := by decide +kernel
set_option maxRecDepth 20000 in
theorem dX15_isShaped_585 : decode cX15_isShaped 585 = .ok (.ireturn, 1) := by decide +kernel
set_option maxRecDepth 20000 in
theorem dX15_isShaped_586 : decode cX15_isShaped 586 = .ok (.iload_n 1, 1) := by decide +kernel
set_option maxRecDepth 20000 in
theorem dX15_isShaped_587 : decode cX15_isShaped 587 = .ok (.bipush 10, 2) := by decide +kernel
set_option maxRecDepth 20000 in
theorem dX15_isShaped_589 : decode cX15_isShaped 589 = .ok (.if_icmp .lt 62, 3) := by decide +kernel
set_option maxRecDepth 20000 in
theorem dX15_isShaped_592 : decode cX15_isShaped 592 = .ok (.aload_n 0, 1) := by decide +kernel
set_option maxRecDepth 20000 in
theorem dX15_isShaped_593 : decode cX15_isShaped 593 = .ok (.iconst 3, 1) := by decide +kernel
set_option maxRecDepth 20000 in
theorem dX15_isShaped_594 : decode cX15_isShaped 594 = .ok (.invokestatic 85, 3) := by decide +kernel
set_option maxRecDepth 20000 in
theorem dX15_isShaped_597 : decode cX15_isShaped 597 = .ok (.iconst 1, 1) := by decide +kernel
set_option maxRecDepth 20000 in
theorem dX15_isShaped_598 : decode cX15_isShaped 598 = .ok (.bipush 125, 2) := by decide +kernel
set_option maxRecDepth 20000 in
theorem dX15_isShaped_600 : decode cX15_isShaped 600 = .ok (.invokestatic 81, 3) := by decide +kernel
set_option maxRecDepth 20000 in
theorem dX15_isShaped_603 : decode cX15_isShaped 603 = .ok (.ifCond .eq 48, 3) := by decide +kernel
set_option maxRecDepth 20000 in
theorem dX15_isShaped_606 : decode cX15_isShaped 606 = .ok (.aload_n 0, 1) := by decide +kernel
set_option maxRecDepth 20000 in
theorem dX15_isShaped_607 : decode cX15_isShaped 607 = .ok (.bipush 7, 2) := by decide +kernel
set_option maxRecDepth 20000 in
theorem dX15_isShaped_609 : decode cX15_isShaped 609 = .ok (.invokestatic 85, 3) := by decide +kernel
set_option maxRecDepth 20000 in
theorem dX15_isShaped_612 : decode cX15_isShaped 612 = .ok (.iconst 1, 1) := by decide +kernel
set_option maxRecDepth 20000 in
theorem dX15_isShaped_613 : decode cX15_isShaped 613 = .ok (.bipush 121, 2) := by decide +kernel
set_option maxRecDepth 20000 in
theorem dX15_isShaped_615 : decode cX15_isShaped 615 = .ok (.invokestatic 81, 3) := by decide +kernel
set_option maxRecDepth 20000 in
theorem dX15_isShaped_618 : decode cX15_isShaped 618 = .ok (.ifCond .eq 33, 3) := by decide +kernel
set_option maxRecDepth 20000 in
theorem dX15_isShaped_621 : decode cX15_isShaped 621 = .ok (.aload_n 0, 1) := by decide +kernel
set_option maxRecDepth 20000 in
theorem dX15_isShaped_622 : decode cX15_isShaped 622 = .ok (.bipush 9, 2) := by decide +kernel
set_option maxRecDepth 20000 in
theorem dX15_isShaped_624 : decode cX15_isShaped 624 = .ok (.iaload, 1) := by decide +kernel
set_option maxRecDepth 20000 in
theorem dX15_isShaped_625 : decode cX15_isShaped 625 = .ok (.iconst 2, 1) := by decide +kernel
set_option maxRecDepth 20000 in
theorem dX15_isShaped_626 : decode cX15_isShaped 626 = .ok (.aload_n 0, 1) := by decide +kernel
set_option maxRecDepth 20000 in
theorem dX15_isShaped_627 : decode cX15_isShaped 627 = .ok (.bipush 7, 2) := by decide +kernel
set_option maxRecDepth 20000 in
theorem dX15_isShaped_629 : decode cX15_isShaped 629 = .ok (.invokestatic 85, 3) := by decide +kernel
set_option maxRecDepth 20000 in
theorem dX15_isShaped_632 : decode cX15_isShaped 632 = .ok (.imul, 1) := by decide +kernel
set_option maxRecDepth 20000 in
theorem dX15_isShaped_633 : decode cX15_isShaped 633 = .ok (.if_icmp .ne 18, 3) := by decide +kernel
set_option maxRecDepth 20000 in
theorem dX15_isShaped_636 : decode cX15_isShaped 636 = .ok (.iload_n 1, 1) := by decide +kernel
set_option maxRecDepth 20000 in
theorem dX15_isShaped_637 : decode cX15_isShaped 637 = .ok (.bipush 10, 2) := by decide +kernel
set_option maxRecDepth 20000 in
theorem dX15_isShaped_639 : decode cX15_isShaped 639 = .ok (.aload_n 0, 1) := by decide +kernel
set_option maxRecDepth 20000 in
theorem dX15_isShaped_640 : decode cX15_isShaped 640 = .ok (.bipush 9, 2) := by decide +kernel
set_option maxRecDepth 20000 in
theorem dX15_isShaped_642 : decode cX15_isShaped 642 = .ok (.iaload, 1) := by decide +kernel
set_option maxRecDepth 20000 in
theorem dX15_isShaped_643 : decode cX15_isShaped 643 = .ok (.iadd, 1) := by decide +kernel
set_option maxRecDepth 20000 in
theorem dX15_isShaped_644 : decode cX15_isShaped 644 = .ok (.if_icmp .ne 7, 3) := by decide +kernel
set_option maxRecDepth 20000 in
theorem dX15_isShaped_647 : decode cX15_isShaped 647 = .ok (.iconst 1, 1) := by decide +kernel
set_option maxRecDepth 20000 in
theorem dX15_isShaped_648 : decode cX15_isShaped 648 = .ok (.goto 4, 3) := by decide +kernel
set_option maxRecDepth 20000 in
theorem dX15_isShaped_651 : decode cX15_isShaped 651 = .ok (.iconst 0, 1) := by decide +kernel
set_option maxRecDepth 20000 in
theorem dX15_isShaped_652 : decode cX15_isShaped 652 = .ok (.ireturn, 1) := by decide +kernel
set_option maxRecDepth 20000 in
theorem dX15_isShaped_653 : decode cX15_isShaped 653 = .ok (.iload_n 1, 1) := by decide +kernel
set_option maxRecDepth 20000 in
theorem dX15_isShaped_654 : decode cX15_isShaped 654 = .ok (.iconst 3, 1) := by decide +kernel
set_option maxRecDepth 20000 in
theorem dX15_isShaped_655 : decode cX15_isShaped 655 = .ok (.if_icmp .ne 7, 3) := by decide +kernel
set_option maxRecDepth 20000 in
theorem dX15_isShaped_658 : decode cX15_isShaped 658 = .ok (.iconst 1, 1) := by decide +kernel
set_option maxRecDepth 20000 in
theorem dX15_isShaped_659 : decode cX15_isShaped 659 = .ok (.goto 4, 3) := by decide +kernel
set_option maxRecDepth 20000 in
theorem dX15_isShaped_662 : decode cX15_isShaped 662 = .ok (.iconst 0, 1) := by decide +kernel
set_option maxRecDepth 20000 in
theorem dX15_isShaped_663 : decode cX15_isShaped 663 = .ok (.ireturn, 1) := by decide +kernel
set_option maxRecDepth 20000 in
theorem dX15_isShaped_664 : decode cX15_isShaped 664 = .ok (.iload_n 1, 1) := by decide +kernel
set_option maxRecDepth 20000 in
theorem dX15_isShaped_665 : decode cX15_isShaped 665 = .ok (.iconst 4, 1) := by decide +kernel
set_option maxRecDepth 20000 in
theorem dX15_isShaped_666 : decode cX15_isShaped 666 = .ok (.if_icmp .ne 26, 3) := by decide +kernel
set_option maxRecDepth 20000 in
theorem dX15_isShaped_669 : decode cX15_isShaped 669 = .ok (.aload_n 0, 1) := by decide +kernel
set_option maxRecDepth 20000 in
theorem dX15_isShaped_670 : decode cX15_isShaped 670 = .ok (.iconst 1, 1) := by decide +kernel
set_option maxRecDepth 20000 in
theorem dX15_isShaped_671 : decode cX15_isShaped 671 = .ok (.iaload, 1) := by decide +kernel
set_option maxRecDepth 20000 in
theorem dX15_isShaped_672 : decode cX15_isShaped 672 = .ok (.bipush 14, 2) := by decide +kernel
set_option maxRecDepth 20000 in
theorem dX15_isShaped_674 : decode cX15_isShaped 674 = .ok (.if_icmp .ne 18, 3) := by decide +kernel
set_option maxRecDepth 20000 in
theorem dX15_isShaped_677 : decode cX15_isShaped 677 = .ok (.aload_n 0, 1) := by decide +kernel
set_option maxRecDepth 20000 in
theorem dX15_isShaped_678 : decode cX15_isShaped 678 = .ok (.iconst 2, 1) := by decide +kernel
set_option maxRecDepth 20000 in
theorem dX15_isShaped_679 : decode cX15_isShaped 679 = .ok (.iaload, 1) := by decide +kernel
set_option maxRecDepth 20000 in
theorem dX15_isShaped_680 : decode cX15_isShaped 680 = .ok (.iconst 1, 1) := by decide +kernel
set_option maxRecDepth 20000 in
theorem dX15_isShaped_681 : decode cX15_isShaped 681 = .ok (.iconst 4, 1) := by decide +kernel
set_option maxRecDepth 20000 in
theorem dX15_isShaped_682 : decode cX15_isShaped 682 = .ok (.invokestatic 81, 3) := by decide +kernel
set_option maxRecDepth 20000 in
theorem dX15_isShaped_685 : decode cX15_isShaped 685 = .ok (.ifCond .eq 7, 3) := by decide +kernel
set_option maxRecDepth 20000 in
theorem dX15_isShaped_688 : decode cX15_isShaped 688 = .ok (.iconst 1, 1) := by decide +kernel
set_option maxRecDepth 20000 in
theorem dX15_isShaped_689 : decode cX15_isShaped 689 = .ok (.goto 4, 3) := by decide +kernel
set_option maxRecDepth 20000 in
theorem dX15_isShaped_692 : decode cX15_isShaped 692 = .ok (.iconst 0, 1) := by decide +kernel
set_option maxRecDepth 20000 in
theorem dX15_isShaped_693 : decode cX15_isShaped 693 = .ok (.ireturn, 1) := by decide +kernel
set_option maxRecDepth 20000 in
theorem dX15_isShaped_694 : decode cX15_isShaped 694 = .ok (.iconst 0, 1) := by decide +kernel
set_option maxRecDepth 20000 in
theorem dX15_isShaped_695 : decode cX15_isShaped 695 = .ok (.ireturn, 1) := by decide +kernel
set_option maxRecDepth 20000 in
theorem dX15_says_0 : decode cX15_says 0 = .ok (.aload_n 0, 1) := by decide +kernel
set_option maxRecDepth 20000 in
theorem dX15_says_1 : decode cX15_says 1 = .ok (.getfield 15, 3) := by decide +kernel
set_option maxRecDepth 20000 in
theorem dX15_says_4 : decode cX15_says 4 = .ok (.aload_n 0, 1) := by decide +kernel
set_option maxRecDepth 20000 in
theorem dX15_says_5 : decode cX15_says 5 = .ok (.getfield 89, 3) := by decide +kernel
set_option maxRecDepth 20000 in
theorem dX15_says_8 : decode cX15_says 8 = .ok (.iload_n 1, 1) := by decide +kernel
set_option maxRecDepth 20000 in
theorem dX15_says_9 : decode cX15_says 9 = .ok (.sipush 255, 3) := by decide +kernel
set_option maxRecDepth 20000 in
theorem dX15_says_12 : decode cX15_says 12 = .ok (.iand, 1) := by decide +kernel
set_option maxRecDepth 20000 in
theorem dX15_says_13 : decode cX15_says 13 = .ok (.iastore, 1) := by decide +kernel
set_option maxRecDepth 20000 in
theorem dX15_says_14 : decode cX15_says 14 = .ok (.aload_n 0, 1) := by decide +kernel
set_option maxRecDepth 20000 in
theorem dX15_says_15 : decode cX15_says 15 = .ok (.dup, 1) := by decide +kernel
set_option maxRecDepth 20000 in
theorem dX15_says_16 : decode cX15_says 16 = .ok (.getfield 89, 3) := by decide +kernel
set_option maxRecDepth 20000 in
theorem dX15_says_19 : decode cX15_says 19 = .ok (.iconst 1, 1) := by decide +kernel
set_option maxRecDepth 20000 in
theorem dX15_says_20 : decode cX15_says 20 = .ok (.iadd, 1) := by decide +kernel
set_option maxRecDepth 20000 in
theorem dX15_says_21 : decode cX15_says 21 = .ok (.putfield 89, 3) := by decide +kernel
set_option maxRecDepth 20000 in
theorem dX15_says_24 : decode cX15_says 24 = .ok (.return_, 1) := by decide +kernel
set_option maxRecDepth 20000 in
theorem dX15_saysTwo_0 : decode cX15_saysTwo 0 = .ok (.aload_n 0, 1) := by decide +kernel
set_option maxRecDepth 20000 in
theorem dX15_saysTwo_1 : decode cX15_saysTwo 1 = .ok (.iload_n 1, 1) := by decide +kernel
set_option maxRecDepth 20000 in
theorem dX15_saysTwo_2 : decode cX15_saysTwo 2 = .ok (.sipush 256, 3) := by decide +kernel
set_option maxRecDepth 20000 in
theorem dX15_saysTwo_5 : decode cX15_saysTwo 5 = .ok (.idiv, 1) := by decide +kernel
set_option maxRecDepth 20000 in
theorem dX15_saysTwo_6 : decode cX15_saysTwo 6 = .ok (.invokevirtual 92, 3) := by decide +kernel
set_option maxRecDepth 20000 in
theorem dX15_saysTwo_9 : decode cX15_saysTwo 9 = .ok (.aload_n 0, 1) := by decide +kernel
set_option maxRecDepth 20000 in
theorem dX15_saysTwo_10 : decode cX15_saysTwo 10 = .ok (.iload_n 1, 1) := by decide +kernel
set_option maxRecDepth 20000 in
theorem dX15_saysTwo_11 : decode cX15_saysTwo 11 = .ok (.sipush 256, 3) := by decide +kernel
set_option maxRecDepth 20000 in
theorem dX15_saysTwo_14 : decode cX15_saysTwo 14 = .ok (.irem, 1) := by decide +kernel
set_option maxRecDepth 20000 in
theorem dX15_saysTwo_15 : decode cX15_saysTwo 15 = .ok (.invokevirtual 92, 3) := by decide +kernel
set_option maxRecDepth 20000 in
theorem dX15_saysTwo_18 : decode cX15_saysTwo 18 = .ok (.return_, 1) := by decide +kernel
set_option maxRecDepth 20000 in
theorem dX15_same_0 : decode cX15_same 0 = .ok (.iconst 0, 1) := by decide +kernel
set_option maxRecDepth 20000 in
theorem dX15_same_1 : decode cX15_same 1 = .ok (.istore_n 3, 1) := by decide +kernel
set_option maxRecDepth 20000 in
theorem dX15_same_2 : decode cX15_same 2 = .ok (.iload_n 3, 1) := by decide +kernel
set_option maxRecDepth 20000 in
theorem dX15_same_3 : decode cX15_same 3 = .ok (.iload_n 2, 1) := by decide +kernel
set_option maxRecDepth 20000 in
theorem dX15_same_4 : decode cX15_same 4 = .ok (.if_icmp .ge 16, 3) := by decide +kernel
set_option maxRecDepth 20000 in
theorem dX15_same_7 : decode cX15_same 7 = .ok (.aload_n 0, 1) := by decide +kernel
set_option maxRecDepth 20000 in
theorem dX15_same_8 : decode cX15_same 8 = .ok (.aload_n 1, 1) := by decide +kernel
set_option maxRecDepth 20000 in
theorem dX15_same_9 : decode cX15_same 9 = .ok (.iload_n 3, 1) := by decide +kernel
set_option maxRecDepth 20000 in
theorem dX15_same_10 : decode cX15_same 10 = .ok (.iaload, 1) := by decide +kernel
set_option maxRecDepth 20000 in
theorem dX15_same_11 : decode cX15_same 11 = .ok (.invokevirtual 92, 3) := by decide +kernel
set_option maxRecDepth 20000 in
theorem dX15_same_14 : decode cX15_same 14 = .ok (.iinc 3 1, 3) := by decide +kernel
set_option maxRecDepth 20000 in
theorem dX15_same_17 : decode cX15_same 17 = .ok (.goto (-15), 3) := by decide +kernel
set_option maxRecDepth 20000 in
theorem dX15_same_20 : decode cX15_same 20 = .ok (.return_, 1) := by decide +kernel
set_option maxRecDepth 20000 in
theorem dX15_isTold_0 : decode cX15_isTold 0 = .ok (.iload_n 0, 1) := by decide +kernel
set_option maxRecDepth 20000 in
theorem dX15_isTold_1 : decode cX15_isTold 1 = .ok (.iconst 1, 1) := by decide +kernel
set_option maxRecDepth 20000 in
theorem dX15_isTold_2 : decode cX15_isTold 2 = .ok (.bipush 8, 2) := by decide +kernel
set_option maxRecDepth 20000 in
theorem dX15_isTold_4 : decode cX15_isTold 4 = .ok (.invokestatic 81, 3) := by decide +kernel
set_option maxRecDepth 20000 in
theorem dX15_isTold_7 : decode cX15_isTold 7 = .ok (.ifCond .ne 43, 3) := by decide +kernel
set_option maxRecDepth 20000 in
theorem dX15_isTold_10 : decode cX15_isTold 10 = .ok (.iload_n 0, 1) := by decide +kernel
set_option maxRecDepth 20000 in
theorem dX15_isTold_11 : decode cX15_isTold 11 = .ok (.bipush 11, 2) := by decide +kernel
set_option maxRecDepth 20000 in
theorem dX15_isTold_13 : decode cX15_isTold 13 = .ok (.if_icmp .eq 37, 3) := by decide +kernel
set_option maxRecDepth 20000 in
theorem dX15_isTold_16 : decode cX15_isTold 16 = .ok (.iload_n 0, 1) := by decide +kernel
set_option maxRecDepth 20000 in
theorem dX15_isTold_17 : decode cX15_isTold 17 = .ok (.bipush 12, 2) := by decide +kernel
set_option maxRecDepth 20000 in
theorem dX15_isTold_19 : decode cX15_isTold 19 = .ok (.if_icmp .eq 31, 3) := by decide +kernel
set_option maxRecDepth 20000 in
theorem dX15_isTold_22 : decode cX15_isTold 22 = .ok (.iload_n 0, 1) := by decide +kernel
set_option maxRecDepth 20000 in
theorem dX15_isTold_23 : decode cX15_isTold 23 = .ok (.bipush 15, 2) := by decide +kernel
set_option maxRecDepth 20000 in
theorem dX15_isTold_25 : decode cX15_isTold 25 = .ok (.bipush 17, 2) := by decide +kernel
set_option maxRecDepth 20000 in
theorem dX15_isTold_27 : decode cX15_isTold 27 = .ok (.invokestatic 81, 3) := by decide +kernel
set_option maxRecDepth 20000 in
theorem dX15_isTold_30 : decode cX15_isTold 30 = .ok (.ifCond .ne 20, 3) := by decide +kernel
set_option maxRecDepth 20000 in
theorem dX15_isTold_33 : decode cX15_isTold 33 = .ok (.iload_n 0, 1) := by decide +kernel
set_option maxRecDepth 20000 in
theorem dX15_isTold_34 : decode cX15_isTold 34 = .ok (.bipush 20, 2) := by decide +kernel
set_option maxRecDepth 20000 in
theorem dX15_isTold_36 : decode cX15_isTold 36 = .ok (.bipush 24, 2) := by decide +kernel
set_option maxRecDepth 20000 in
theorem dX15_isTold_38 : decode cX15_isTold 38 = .ok (.invokestatic 81, 3) := by decide +kernel
set_option maxRecDepth 20000 in
theorem dX15_isTold_41 : decode cX15_isTold 41 = .ok (.ifCond .ne 9, 3) := by decide +kernel
set_option maxRecDepth 20000 in
theorem dX15_isTold_44 : decode cX15_isTold 44 = .ok (.iload_n 0, 1) := by decide +kernel
set_option maxRecDepth 20000 in
theorem dX15_isTold_45 : decode cX15_isTold 45 = .ok (.bipush 43, 2) := by decide +kernel
set_option maxRecDepth 20000 in
theorem dX15_isTold_47 : decode cX15_isTold 47 = .ok (.if_icmp .ne 7, 3) := by decide +kernel
set_option maxRecDepth 20000 in
theorem dX15_isTold_50 : decode cX15_isTold 50 = .ok (.iconst 1, 1) := by decide +kernel
set_option maxRecDepth 20000 in
theorem dX15_isTold_51 : decode cX15_isTold 51 = .ok (.goto 4, 3) := by decide +kernel
set_option maxRecDepth 20000 in
theorem dX15_isTold_54 : decode cX15_isTold 54 = .ok (.iconst 0, 1) := by decide +kernel
set_option maxRecDepth 20000 in
theorem dX15_isTold_55 : decode cX15_isTold 55 = .ok (.ireturn, 1) := by decide +kernel
set_option maxRecDepth 20000 in
theorem dX15_refusal_0 : decode cX15_refusal 0 = .ok (.aload_n 1, 1) := by decide +kernel
set_option maxRecDepth 20000 in
theorem dX15_refusal_1 : decode cX15_refusal 1 = .ok (.iconst 0, 1) := by decide +kernel
set_option maxRecDepth 20000 in
theorem dX15_refusal_2 : decode cX15_refusal 2 = .ok (.iaload, 1) := by decide +kernel
set_option maxRecDepth 20000 in
theorem dX15_refusal_3 : decode cX15_refusal 3 = .ok (.istore_n 3, 1) := by decide +kernel
set_option maxRecDepth 20000 in
theorem dX15_refusal_4 : decode cX15_refusal 4 = .ok (.iload_n 3, 1) := by decide +kernel
set_option maxRecDepth 20000 in
theorem dX15_refusal_5 : decode cX15_refusal 5 = .ok (.invokestatic 96, 3) := by decide +kernel
set_option maxRecDepth 20000 in
theorem dX15_refusal_8 : decode cX15_refusal 8 = .ok (.ifCond .ne 5, 3) := by decide +kernel
set_option maxRecDepth 20000 in
theorem dX15_refusal_11 : decode cX15_refusal 11 = .ok (.iconst 1, 1) := by decide +kernel
set_option maxRecDepth 20000 in
theorem dX15_refusal_12 : decode cX15_refusal 12 = .ok (.ireturn, 1) := by decide +kernel
set_option maxRecDepth 20000 in
theorem dX15_refusal_13 : decode cX15_refusal 13 = .ok (.iload_n 3, 1) := by decide +kernel
set_option maxRecDepth 20000 in
theorem dX15_refusal_14 : decode cX15_refusal 14 = .ok (.bipush 8, 2) := by decide +kernel
set_option maxRecDepth 20000 in
theorem dX15_refusal_16 : decode cX15_refusal 16 = .ok (.if_icmp .ne 9, 3) := by decide +kernel
set_option maxRecDepth 20000 in
theorem dX15_refusal_19 : decode cX15_refusal 19 = .ok (.aload_n 1, 1) := by decide +kernel
set_option maxRecDepth 20000 in
theorem dX15_refusal_20 : decode cX15_refusal 20 = .ok (.iload_n 2, 1) := by decide +kernel
set_option maxRecDepth 20000 in
theorem dX15_refusal_21 : decode cX15_refusal 21 = .ok (.invokestatic 100, 3) := by decide +kernel
set_option maxRecDepth 20000 in
theorem dX15_refusal_24 : decode cX15_refusal 24 = .ok (.ireturn, 1) := by decide +kernel
set_option maxRecDepth 20000 in
theorem dX15_refusal_25 : decode cX15_refusal 25 = .ok (.iload_n 3, 1) := by decide +kernel
set_option maxRecDepth 20000 in
theorem dX15_refusal_26 : decode cX15_refusal 26 = .ok (.bipush 43, 2) := by decide +kernel
set_option maxRecDepth 20000 in
theorem dX15_refusal_28 : decode cX15_refusal 28 = .ok (.if_icmp .ne 18, 3) := by decide +kernel
set_option maxRecDepth 20000 in
theorem dX15_refusal_31 : decode cX15_refusal 31 = .ok (.iload_n 2, 1) := by decide +kernel
set_option maxRecDepth 20000 in
theorem dX15_refusal_32 : decode cX15_refusal 32 = .ok (.iconst 1, 1) := by decide +kernel
set_option maxRecDepth 20000 in
theorem dX15_refusal_33 : decode cX15_refusal 33 = .ok (.if_icmp .le 13, 3) := by decide +kernel
set_option maxRecDepth 20000 in
theorem dX15_refusal_36 : decode cX15_refusal 36 = .ok (.aload_n 1, 1) := by decide +kernel
set_option maxRecDepth 20000 in
theorem dX15_refusal_37 : decode cX15_refusal 37 = .ok (.iconst 1, 1) := by decide +kernel
set_option maxRecDepth 20000 in
theorem dX15_refusal_38 : decode cX15_refusal 38 = .ok (.iaload, 1) := by decide +kernel
set_option maxRecDepth 20000 in
theorem dX15_refusal_39 : decode cX15_refusal 39 = .ok (.bipush 14, 2) := by decide +kernel
set_option maxRecDepth 20000 in
theorem dX15_refusal_41 : decode cX15_refusal 41 = .ok (.if_icmp .eq 5, 3) := by decide +kernel
set_option maxRecDepth 20000 in
theorem dX15_refusal_44 : decode cX15_refusal 44 = .ok (.iconst 1, 1) := by decide +kernel
set_option maxRecDepth 20000 in
theorem dX15_refusal_45 : decode cX15_refusal 45 = .ok (.ireturn, 1) := by decide +kernel
set_option maxRecDepth 20000 in
theorem dX15_refusal_46 : decode cX15_refusal 46 = .ok (.aload_n 1, 1) := by decide +kernel
set_option maxRecDepth 20000 in
theorem dX15_refusal_47 : decode cX15_refusal 47 = .ok (.iload_n 2, 1) := by decide +kernel
set_option maxRecDepth 20000 in
theorem dX15_refusal_48 : decode cX15_refusal 48 = .ok (.invokestatic 103, 3) := by decide +kernel
set_option maxRecDepth 20000 in
theorem dX15_refusal_51 : decode cX15_refusal 51 = .ok (.ifCond .ne 5, 3) := by decide +kernel
set_option maxRecDepth 20000 in
theorem dX15_refusal_54 : decode cX15_refusal 54 = .ok (.iconst 3, 1) := by decide +kernel
set_option maxRecDepth 20000 in
theorem dX15_refusal_55 : decode cX15_refusal 55 = .ok (.ireturn, 1) := by decide +kernel
set_option maxRecDepth 20000 in
theorem dX15_refusal_56 : decode cX15_refusal 56 = .ok (.iload_n 3, 1) := by decide +kernel
set_option maxRecDepth 20000 in
theorem dX15_refusal_57 : decode cX15_refusal 57 = .ok (.tableswitch 570 1 43 #[187, 187, 187, 187, 238, 280, 570, 570, 570, 570, 570, 570, 570, 570, 321, 345, 570, 570, 570, 393, 393, 400, 441, 507, 570, 570, 570, 570, 570, 570, 570, 570, 570, 570, 570, 570, 570, 570, 570, 570, 570, 570, 546], 187) := by decide +kernel
set_option maxRecDepth 20000 in
theorem dX15_refusal_244 : decode cX15_refusal 244 = .ok (.aload_n 0, 1) := by decide +kernel
set_option maxRecDepth 20000 in
theorem dX15_refusal_245 : decode cX15_refusal 245 = .ok (.iload_n 3, 1) := by decide +kernel
set_option maxRecDepth 20000 in
theorem dX15_refusal_246 : decode cX15_refusal 246 = .ok (.iconst 1, 1) := by decide +kernel
set_option maxRecDepth 20000 in
theorem dX15_refusal_247 : decode cX15_refusal 247 = .ok (.if_icmp .ne 7, 3) := by decide +kernel
set_option maxRecDepth 20000 in
theorem dX15_refusal_250 : decode cX15_refusal 250 = .ok (.iconst 0, 1) := by decide +kernel
set_option maxRecDepth 20000 in
theorem dX15_refusal_251 : decode cX15_refusal 251 = .ok (.goto 22, 3) := by decide +kernel
set_option maxRecDepth 20000 in
theorem dX15_refusal_254 : decode cX15_refusal 254 = .ok (.iload_n 3, 1) := by decide +kernel
set_option maxRecDepth 20000 in
theorem dX15_refusal_255 : decode cX15_refusal 255 = .ok (.iconst 2, 1) := by decide +kernel
set_option maxRecDepth 20000 in
theorem dX15_refusal_256 : decode cX15_refusal 256 = .ok (.if_icmp .ne 7, 3) := by decide +kernel
set_option maxRecDepth 20000 in
theorem dX15_refusal_259 : decode cX15_refusal 259 = .ok (.iconst 1, 1) := by decide +kernel
set_option maxRecDepth 20000 in
theorem dX15_refusal_260 : decode cX15_refusal 260 = .ok (.goto 13, 3) := by decide +kernel
set_option maxRecDepth 20000 in
theorem dX15_refusal_263 : decode cX15_refusal 263 = .ok (.iload_n 3, 1) := by decide +kernel
set_option maxRecDepth 20000 in
theorem dX15_refusal_264 : decode cX15_refusal 264 = .ok (.iconst 3, 1) := by decide +kernel
set_option maxRecDepth 20000 in
theorem dX15_refusal_265 : decode cX15_refusal 265 = .ok (.if_icmp .ne 7, 3) := by decide +kernel
set_option maxRecDepth 20000 in
theorem dX15_refusal_268 : decode cX15_refusal 268 = .ok (.iconst 2, 1) := by decide +kernel
set_option maxRecDepth 20000 in
theorem dX15_refusal_269 : decode cX15_refusal 269 = .ok (.goto 4, 3) := by decide +kernel
set_option maxRecDepth 20000 in
theorem dX15_refusal_272 : decode cX15_refusal 272 = .ok (.iconst 3, 1) := by decide +kernel
set_option maxRecDepth 20000 in
theorem dX15_refusal_273 : decode cX15_refusal 273 = .ok (.aload_n 1, 1) := by decide +kernel
set_option maxRecDepth 20000 in
theorem dX15_refusal_274 : decode cX15_refusal 274 = .ok (.iconst 1, 1) := by decide +kernel
set_option maxRecDepth 20000 in
theorem dX15_refusal_275 : decode cX15_refusal 275 = .ok (.invokestatic 85, 3) := by decide +kernel
set_option maxRecDepth 20000 in
theorem dX15_refusal_278 : decode cX15_refusal 278 = .ok (.aload_n 1, 1) := by decide +kernel
set_option maxRecDepth 20000 in
theorem dX15_refusal_279 : decode cX15_refusal 279 = .ok (.iconst 3, 1) := by decide +kernel
set_option maxRecDepth 20000 in
theorem dX15_refusal_280 : decode cX15_refusal 280 = .ok (.invokestatic 85, 3) := by decide +kernel
set_option maxRecDepth 20000 in
theorem dX15_refusal_283 : decode cX15_refusal 283 = .ok (.invokevirtual 107, 3) := by decide +kernel
set_option maxRecDepth 20000 in
theorem dX15_refusal_286 : decode cX15_refusal 286 = .ok (.ifCond .eq 7, 3) := by decide +kernel
set_option maxRecDepth 20000 in
theorem dX15_refusal_289 : decode cX15_refusal 289 = .ok (.iconst 0, 1) := by decide +kernel
set_option maxRecDepth 20000 in
theorem dX15_refusal_290 : decode cX15_refusal 290 = .ok (.goto 4, 3) := by decide +kernel
set_option maxRecDepth 20000 in
theorem dX15_refusal_293 : decode cX15_refusal 293 = .ok (.iconst 2, 1) := by decide +kernel
set_option maxRecDepth 20000 in
theorem dX15_refusal_294 : decode cX15_refusal 294 = .ok (.ireturn, 1) := by decide +kernel
set_option maxRecDepth 20000 in
theorem dX15_refusal_295 : decode cX15_refusal 295 = .ok (.aload_n 1, 1) := by decide +kernel
set_option maxRecDepth 20000 in
theorem dX15_refusal_296 : decode cX15_refusal 296 = .ok (.iconst 3, 1) := by decide +kernel
set_option maxRecDepth 20000 in
theorem dX15_refusal_297 : decode cX15_refusal 297 = .ok (.invokestatic 85, 3) := by decide +kernel
set_option maxRecDepth 20000 in
theorem dX15_refusal_300 : decode cX15_refusal 300 = .ok (.ifCond .eq 17, 3) := by decide +kernel
set_option maxRecDepth 20000 in
theorem dX15_refusal_303 : decode cX15_refusal 303 = .ok (.aload_n 1, 1) := by decide +kernel
set_option maxRecDepth 20000 in
theorem dX15_refusal_304 : decode cX15_refusal 304 = .ok (.iconst 3, 1) := by decide +kernel
set_option maxRecDepth 20000 in
theorem dX15_refusal_305 : decode cX15_refusal 305 = .ok (.invokestatic 85, 3) := by decide +kernel
set_option maxRecDepth 20000 in
theorem dX15_refusal_308 : decode cX15_refusal 308 = .ok (.ldc 110, 2) := by decide +kernel
set_option maxRecDepth 20000 in
theorem dX15_refusal_310 : decode cX15_refusal 310 = .ok (.if_icmp .eq 7, 3) := by decide +kernel
set_option maxRecDepth 20000 in
theorem dX15_refusal_313 : decode cX15_refusal 313 = .ok (.iconst 3, 1) := by decide +kernel
set_option maxRecDepth 20000 in
theorem dX15_refusal_314 : decode cX15_refusal 314 = .ok (.goto 22, 3) := by decide +kernel
set_option maxRecDepth 20000 in
theorem dX15_refusal_317 : decode cX15_refusal 317 = .ok (.aload_n 0, 1) := by decide +kernel
set_option maxRecDepth 20000 in
theorem dX15_refusal_318 : decode cX15_refusal 318 = .ok (.iconst 0, 1) := by decide +kernel
set_option maxRecDepth 20000 in
theorem dX15_refusal_319 : decode cX15_refusal 319 = .ok (.aload_n 1, 1) := by decide +kernel
set_option maxRecDepth 20000 in
theorem dX15_refusal_320 : decode cX15_refusal 320 = .ok (.iconst 1, 1) := by decide +kernel
set_option maxRecDepth 20000 in
theorem dX15_refusal_321 : decode cX15_refusal 321 = .ok (.invokestatic 85, 3) := by decide +kernel
set_option maxRecDepth 20000 in
theorem dX15_refusal_324 : decode cX15_refusal 324 = .ok (.iconst 1, 1) := by decide +kernel
set_option maxRecDepth 20000 in
theorem dX15_refusal_325 : decode cX15_refusal 325 = .ok (.invokevirtual 107, 3) := by decide +kernel
set_option maxRecDepth 20000 in
theorem dX15_refusal_328 : decode cX15_refusal 328 = .ok (.ifCond .eq 7, 3) := by decide +kernel
set_option maxRecDepth 20000 in
theorem dX15_refusal_331 : decode cX15_refusal 331 = .ok (.iconst 0, 1) := by decide +kernel
set_option maxRecDepth 20000 in
theorem dX15_refusal_332 : decode cX15_refusal 332 = .ok (.goto 4, 3) := by decide +kernel
set_option maxRecDepth 20000 in
theorem dX15_refusal_335 : decode cX15_refusal 335 = .ok (.iconst 2, 1) := by decide +kernel
set_option maxRecDepth 20000 in
theorem dX15_refusal_336 : decode cX15_refusal 336 = .ok (.ireturn, 1) := by decide +kernel
set_option maxRecDepth 20000 in
theorem dX15_refusal_337 : decode cX15_refusal 337 = .ok (.aload_n 0, 1) := by decide +kernel
set_option maxRecDepth 20000 in
theorem dX15_refusal_338 : decode cX15_refusal 338 = .ok (.iconst 2, 1) := by decide +kernel
set_option maxRecDepth 20000 in
theorem dX15_refusal_339 : decode cX15_refusal 339 = .ok (.aload_n 1, 1) := by decide +kernel
set_option maxRecDepth 20000 in
theorem dX15_refusal_340 : decode cX15_refusal 340 = .ok (.iconst 1, 1) := by decide +kernel
set_option maxRecDepth 20000 in
theorem dX15_refusal_341 : decode cX15_refusal 341 = .ok (.invokestatic 85, 3) := by decide +kernel
set_option maxRecDepth 20000 in
theorem dX15_refusal_344 : decode cX15_refusal 344 = .ok (.iconst 1, 1) := by decide +kernel
set_option maxRecDepth 20000 in
theorem dX15_refusal_345 : decode cX15_refusal 345 = .ok (.invokevirtual 107, 3) := by decide +kernel
set_option maxRecDepth 20000 in
theorem dX15_refusal_348 : decode cX15_refusal 348 = .ok (.ifCond .ne 7, 3) := by decide +kernel
set_option maxRecDepth 20000 in
theorem dX15_refusal_351 : decode cX15_refusal 351 = .ok (.iconst 2, 1) := by decide +kernel
set_option maxRecDepth 20000 in
theorem dX15_refusal_352 : decode cX15_refusal 352 = .ok (.goto 25, 3) := by decide +kernel
set_option maxRecDepth 20000 in
theorem dX15_refusal_355 : decode cX15_refusal 355 = .ok (.aload_n 0, 1) := by decide +kernel
set_option maxRecDepth 20000 in
theorem dX15_refusal_356 : decode cX15_refusal 356 = .ok (.aload_n 1, 1) := by decide +kernel
set_option maxRecDepth 20000 in
theorem dX15_refusal_357 : decode cX15_refusal 357 = .ok (.iconst 1, 1) := by decide +kernel
set_option maxRecDepth 20000 in
theorem dX15_refusal_358 : decode cX15_refusal 358 = .ok (.invokestatic 85, 3) := by decide +kernel
set_option maxRecDepth 20000 in
theorem dX15_refusal_361 : decode cX15_refusal 361 = .ok (.aload_n 1, 1) := by decide +kernel
set_option maxRecDepth 20000 in
theorem dX15_refusal_362 : decode cX15_refusal 362 = .ok (.iconst 3, 1) := by decide +kernel
set_option maxRecDepth 20000 in
theorem dX15_refusal_363 : decode cX15_refusal 363 = .ok (.invokestatic 85, 3) := by decide +kernel
set_option maxRecDepth 20000 in
theorem dX15_refusal_366 : decode cX15_refusal 366 = .ok (.invokevirtual 111, 3) := by decide +kernel
set_option maxRecDepth 20000 in
theorem dX15_refusal_369 : decode cX15_refusal 369 = .ok (.ifCond .eq 7, 3) := by decide +kernel
set_option maxRecDepth 20000 in
theorem dX15_refusal_372 : decode cX15_refusal 372 = .ok (.iconst 0, 1) := by decide +kernel
set_option maxRecDepth 20000 in
theorem dX15_refusal_373 : decode cX15_refusal 373 = .ok (.goto 4, 3) := by decide +kernel
set_option maxRecDepth 20000 in
theorem dX15_refusal_376 : decode cX15_refusal 376 = .ok (.iconst 3, 1) := by decide +kernel
set_option maxRecDepth 20000 in
theorem dX15_refusal_377 : decode cX15_refusal 377 = .ok (.ireturn, 1) := by decide +kernel
set_option maxRecDepth 20000 in
theorem dX15_refusal_378 : decode cX15_refusal 378 = .ok (.aload_n 0, 1) := by decide +kernel
set_option maxRecDepth 20000 in
theorem dX15_refusal_379 : decode cX15_refusal 379 = .ok (.iconst 0, 1) := by decide +kernel
set_option maxRecDepth 20000 in
theorem dX15_refusal_380 : decode cX15_refusal 380 = .ok (.aload_n 1, 1) := by decide +kernel
set_option maxRecDepth 20000 in
theorem dX15_refusal_381 : decode cX15_refusal 381 = .ok (.iconst 1, 1) := by decide +kernel
set_option maxRecDepth 20000 in
theorem dX15_refusal_382 : decode cX15_refusal 382 = .ok (.invokestatic 85, 3) := by decide +kernel
set_option maxRecDepth 20000 in
theorem dX15_refusal_385 : decode cX15_refusal 385 = .ok (.aload_n 1, 1) := by decide +kernel
set_option maxRecDepth 20000 in
theorem dX15_refusal_386 : decode cX15_refusal 386 = .ok (.iconst 3, 1) := by decide +kernel
set_option maxRecDepth 20000 in
theorem dX15_refusal_387 : decode cX15_refusal 387 = .ok (.invokestatic 85, 3) := by decide +kernel
set_option maxRecDepth 20000 in
theorem dX15_refusal_390 : decode cX15_refusal 390 = .ok (.invokevirtual 107, 3) := by decide +kernel
set_option maxRecDepth 20000 in
theorem dX15_refusal_393 : decode cX15_refusal 393 = .ok (.ifCond .eq 7, 3) := by decide +kernel
set_option maxRecDepth 20000 in
theorem dX15_refusal_396 : decode cX15_refusal 396 = .ok (.iconst 0, 1) := by decide +kernel
set_option maxRecDepth 20000 in
theorem dX15_refusal_397 : decode cX15_refusal 397 = .ok (.goto 4, 3) := by decide +kernel
set_option maxRecDepth 20000 in
theorem dX15_refusal_400 : decode cX15_refusal 400 = .ok (.iconst 2, 1) := by decide +kernel
set_option maxRecDepth 20000 in
theorem dX15_refusal_401 : decode cX15_refusal 401 = .ok (.ireturn, 1) := by decide +kernel
set_option maxRecDepth 20000 in
theorem dX15_refusal_402 : decode cX15_refusal 402 = .ok (.aload_n 0, 1) := by decide +kernel
set_option maxRecDepth 20000 in
theorem dX15_refusal_403 : decode cX15_refusal 403 = .ok (.iconst 2, 1) := by decide +kernel
set_option maxRecDepth 20000 in
theorem dX15_refusal_404 : decode cX15_refusal 404 = .ok (.aload_n 1, 1) := by decide +kernel
set_option maxRecDepth 20000 in
theorem dX15_refusal_405 : decode cX15_refusal 405 = .ok (.iconst 1, 1) := by decide +kernel
set_option maxRecDepth 20000 in
theorem dX15_refusal_406 : decode cX15_refusal 406 = .ok (.invokestatic 85, 3) := by decide +kernel
set_option maxRecDepth 20000 in
theorem dX15_refusal_409 : decode cX15_refusal 409 = .ok (.aload_n 1, 1) := by decide +kernel
set_option maxRecDepth 20000 in
theorem dX15_refusal_410 : decode cX15_refusal 410 = .ok (.iconst 3, 1) := by decide +kernel
set_option maxRecDepth 20000 in
theorem dX15_refusal_411 : decode cX15_refusal 411 = .ok (.invokestatic 85, 3) := by decide +kernel
set_option maxRecDepth 20000 in
theorem dX15_refusal_414 : decode cX15_refusal 414 = .ok (.invokevirtual 107, 3) := by decide +kernel
set_option maxRecDepth 20000 in
theorem dX15_refusal_417 : decode cX15_refusal 417 = .ok (.ifCond .ne 7, 3) := by decide +kernel
set_option maxRecDepth 20000 in
theorem dX15_refusal_420 : decode cX15_refusal 420 = .ok (.iconst 2, 1) := by decide +kernel
set_option maxRecDepth 20000 in
theorem dX15_refusal_421 : decode cX15_refusal 421 = .ok (.goto 28, 3) := by decide +kernel
set_option maxRecDepth 20000 in
theorem dX15_refusal_424 : decode cX15_refusal 424 = .ok (.aload_n 0, 1) := by decide +kernel
set_option maxRecDepth 20000 in
theorem dX15_refusal_425 : decode cX15_refusal 425 = .ok (.aload_n 1, 1) := by decide +kernel
set_option maxRecDepth 20000 in
theorem dX15_refusal_426 : decode cX15_refusal 426 = .ok (.aload_n 1, 1) := by decide +kernel
set_option maxRecDepth 20000 in
theorem dX15_refusal_427 : decode cX15_refusal 427 = .ok (.iconst 1, 1) := by decide +kernel
set_option maxRecDepth 20000 in
theorem dX15_refusal_428 : decode cX15_refusal 428 = .ok (.invokestatic 85, 3) := by decide +kernel
set_option maxRecDepth 20000 in
theorem dX15_refusal_431 : decode cX15_refusal 431 = .ok (.aload_n 1, 1) := by decide +kernel
set_option maxRecDepth 20000 in
theorem dX15_refusal_432 : decode cX15_refusal 432 = .ok (.iconst 3, 1) := by decide +kernel
set_option maxRecDepth 20000 in
theorem dX15_refusal_433 : decode cX15_refusal 433 = .ok (.invokestatic 85, 3) := by decide +kernel
set_option maxRecDepth 20000 in
theorem dX15_refusal_436 : decode cX15_refusal 436 = .ok (.bipush 6, 2) := by decide +kernel
set_option maxRecDepth 20000 in
theorem dX15_refusal_438 : decode cX15_refusal 438 = .ok (.invokestatic 115, 3) := by decide +kernel
set_option maxRecDepth 20000 in
theorem dX15_refusal_441 : decode cX15_refusal 441 = .ok (.ifCond .eq 7, 3) := by decide +kernel
set_option maxRecDepth 20000 in
theorem dX15_refusal_444 : decode cX15_refusal 444 = .ok (.iconst 0, 1) := by decide +kernel
set_option maxRecDepth 20000 in
theorem dX15_refusal_445 : decode cX15_refusal 445 = .ok (.goto 4, 3) := by decide +kernel
set_option maxRecDepth 20000 in
theorem dX15_refusal_448 : decode cX15_refusal 448 = .ok (.iconst 3, 1) := by decide +kernel
set_option maxRecDepth 20000 in
theorem dX15_refusal_449 : decode cX15_refusal 449 = .ok (.ireturn, 1) := by decide +kernel
set_option maxRecDepth 20000 in
theorem dX15_refusal_450 : decode cX15_refusal 450 = .ok (.aload_n 0, 1) := by decide +kernel
set_option maxRecDepth 20000 in
theorem dX15_refusal_451 : decode cX15_refusal 451 = .ok (.aload_n 1, 1) := by decide +kernel
set_option maxRecDepth 20000 in
theorem dX15_refusal_452 : decode cX15_refusal 452 = .ok (.iload_n 2, 1) := by decide +kernel
set_option maxRecDepth 20000 in
theorem dX15_refusal_453 : decode cX15_refusal 453 = .ok (.invokestatic 119, 3) := by decide +kernel
set_option maxRecDepth 20000 in
theorem dX15_refusal_456 : decode cX15_refusal 456 = .ok (.ireturn, 1) := by decide +kernel
set_option maxRecDepth 20000 in
theorem dX15_refusal_457 : decode cX15_refusal 457 = .ok (.aload_n 0, 1) := by decide +kernel
set_option maxRecDepth 20000 in
theorem dX15_refusal_458 : decode cX15_refusal 458 = .ok (.iconst 2, 1) := by decide +kernel
set_option maxRecDepth 20000 in
theorem dX15_refusal_459 : decode cX15_refusal 459 = .ok (.aload_n 1, 1) := by decide +kernel
set_option maxRecDepth 20000 in
theorem dX15_refusal_460 : decode cX15_refusal 460 = .ok (.iconst 1, 1) := by decide +kernel
set_option maxRecDepth 20000 in
theorem dX15_refusal_461 : decode cX15_refusal 461 = .ok (.invokestatic 85, 3) := by decide +kernel
set_option maxRecDepth 20000 in
theorem dX15_refusal_464 : decode cX15_refusal 464 = .ok (.iconst 1, 1) := by decide +kernel
set_option maxRecDepth 20000 in
theorem dX15_refusal_465 : decode cX15_refusal 465 = .ok (.invokevirtual 107, 3) := by decide +kernel
set_option maxRecDepth 20000 in
theorem dX15_refusal_468 : decode cX15_refusal 468 = .ok (.ifCond .ne 7, 3) := by decide +kernel
set_option maxRecDepth 20000 in
theorem dX15_refusal_471 : decode cX15_refusal 471 = .ok (.iconst 2, 1) := by decide +kernel
set_option maxRecDepth 20000 in
theorem dX15_refusal_472 : decode cX15_refusal 472 = .ok (.goto 25, 3) := by decide +kernel
set_option maxRecDepth 20000 in
theorem dX15_refusal_475 : decode cX15_refusal 475 = .ok (.aload_n 0, 1) := by decide +kernel
set_option maxRecDepth 20000 in
theorem dX15_refusal_476 : decode cX15_refusal 476 = .ok (.aload_n 1, 1) := by decide +kernel
set_option maxRecDepth 20000 in
theorem dX15_refusal_477 : decode cX15_refusal 477 = .ok (.iconst 1, 1) := by decide +kernel
set_option maxRecDepth 20000 in
theorem dX15_refusal_478 : decode cX15_refusal 478 = .ok (.invokestatic 85, 3) := by decide +kernel
set_option maxRecDepth 20000 in
theorem dX15_refusal_481 : decode cX15_refusal 481 = .ok (.aload_n 0, 1) := by decide +kernel
set_option maxRecDepth 20000 in
theorem dX15_refusal_482 : decode cX15_refusal 482 = .ok (.aload_n 1, 1) := by decide +kernel
set_option maxRecDepth 20000 in
theorem dX15_refusal_483 : decode cX15_refusal 483 = .ok (.invokestatic 123, 3) := by decide +kernel
set_option maxRecDepth 20000 in
theorem dX15_refusal_486 : decode cX15_refusal 486 = .ok (.invokevirtual 111, 3) := by decide +kernel
set_option maxRecDepth 20000 in
theorem dX15_refusal_489 : decode cX15_refusal 489 = .ok (.ifCond .eq 7, 3) := by decide +kernel
set_option maxRecDepth 20000 in
theorem dX15_refusal_492 : decode cX15_refusal 492 = .ok (.iconst 0, 1) := by decide +kernel
set_option maxRecDepth 20000 in
theorem dX15_refusal_493 : decode cX15_refusal 493 = .ok (.goto 4, 3) := by decide +kernel
set_option maxRecDepth 20000 in
theorem dX15_refusal_496 : decode cX15_refusal 496 = .ok (.iconst 3, 1) := by decide +kernel
set_option maxRecDepth 20000 in
theorem dX15_refusal_497 : decode cX15_refusal 497 = .ok (.ireturn, 1) := by decide +kernel
set_option maxRecDepth 20000 in
theorem dX15_refusal_498 : decode cX15_refusal 498 = .ok (.aload_n 0, 1) := by decide +kernel
set_option maxRecDepth 20000 in
theorem dX15_refusal_499 : decode cX15_refusal 499 = .ok (.iconst 2, 1) := by decide +kernel
set_option maxRecDepth 20000 in
theorem dX15_refusal_500 : decode cX15_refusal 500 = .ok (.aload_n 1, 1) := by decide +kernel
set_option maxRecDepth 20000 in
theorem dX15_refusal_501 : decode cX15_refusal 501 = .ok (.iconst 1, 1) := by decide +kernel
set_option maxRecDepth 20000 in
theorem dX15_refusal_502 : decode cX15_refusal 502 = .ok (.invokestatic 85, 3) := by decide +kernel
set_option maxRecDepth 20000 in
theorem dX15_refusal_505 : decode cX15_refusal 505 = .ok (.aload_n 1, 1) := by decide +kernel
set_option maxRecDepth 20000 in
theorem dX15_refusal_506 : decode cX15_refusal 506 = .ok (.iconst 3, 1) := by decide +kernel
set_option maxRecDepth 20000 in
theorem dX15_refusal_507 : decode cX15_refusal 507 = .ok (.invokestatic 85, 3) := by decide +kernel
set_option maxRecDepth 20000 in
theorem dX15_refusal_510 : decode cX15_refusal 510 = .ok (.invokevirtual 107, 3) := by decide +kernel
set_option maxRecDepth 20000 in
theorem dX15_refusal_513 : decode cX15_refusal 513 = .ok (.ifCond .eq 22, 3) := by decide +kernel
set_option maxRecDepth 20000 in
theorem dX15_refusal_516 : decode cX15_refusal 516 = .ok (.aload_n 0, 1) := by decide +kernel
set_option maxRecDepth 20000 in
theorem dX15_refusal_517 : decode cX15_refusal 517 = .ok (.iconst 2, 1) := by decide +kernel
set_option maxRecDepth 20000 in
theorem dX15_refusal_518 : decode cX15_refusal 518 = .ok (.aload_n 1, 1) := by decide +kernel
set_option maxRecDepth 20000 in
theorem dX15_refusal_519 : decode cX15_refusal 519 = .ok (.iconst 5, 1) := by decide +kernel
set_option maxRecDepth 20000 in
theorem dX15_refusal_520 : decode cX15_refusal 520 = .ok (.invokestatic 85, 3) := by decide +kernel
set_option maxRecDepth 20000 in
theorem dX15_refusal_523 : decode cX15_refusal 523 = .ok (.aload_n 1, 1) := by decide +kernel
set_option maxRecDepth 20000 in
theorem dX15_refusal_524 : decode cX15_refusal 524 = .ok (.bipush 7, 2) := by decide +kernel
set_option maxRecDepth 20000 in
theorem dX15_refusal_526 : decode cX15_refusal 526 = .ok (.invokestatic 85, 3) := by decide +kernel
set_option maxRecDepth 20000 in
theorem dX15_refusal_529 : decode cX15_refusal 529 = .ok (.invokevirtual 107, 3) := by decide +kernel
set_option maxRecDepth 20000 in
theorem dX15_refusal_532 : decode cX15_refusal 532 = .ok (.ifCond .ne 5, 3) := by decide +kernel
set_option maxRecDepth 20000 in
theorem dX15_refusal_535 : decode cX15_refusal 535 = .ok (.iconst 2, 1) := by decide +kernel
set_option maxRecDepth 20000 in
theorem dX15_refusal_536 : decode cX15_refusal 536 = .ok (.ireturn, 1) := by decide +kernel
set_option maxRecDepth 20000 in
theorem dX15_refusal_537 : decode cX15_refusal 537 = .ok (.aload_n 0, 1) := by decide +kernel
set_option maxRecDepth 20000 in
theorem dX15_refusal_538 : decode cX15_refusal 538 = .ok (.aload_n 1, 1) := by decide +kernel
set_option maxRecDepth 20000 in
theorem dX15_refusal_539 : decode cX15_refusal 539 = .ok (.aload_n 1, 1) := by decide +kernel
set_option maxRecDepth 20000 in
theorem dX15_refusal_540 : decode cX15_refusal 540 = .ok (.iconst 5, 1) := by decide +kernel
set_option maxRecDepth 20000 in
theorem dX15_refusal_541 : decode cX15_refusal 541 = .ok (.invokestatic 85, 3) := by decide +kernel
set_option maxRecDepth 20000 in
theorem dX15_refusal_544 : decode cX15_refusal 544 = .ok (.aload_n 1, 1) := by decide +kernel
set_option maxRecDepth 20000 in
theorem dX15_refusal_545 : decode cX15_refusal 545 = .ok (.bipush 7, 2) := by decide +kernel
set_option maxRecDepth 20000 in
theorem dX15_refusal_547 : decode cX15_refusal 547 = .ok (.invokestatic 85, 3) := by decide +kernel
set_option maxRecDepth 20000 in
theorem dX15_refusal_550 : decode cX15_refusal 550 = .ok (.bipush 10, 2) := by decide +kernel
set_option maxRecDepth 20000 in
theorem dX15_refusal_552 : decode cX15_refusal 552 = .ok (.invokestatic 115, 3) := by decide +kernel
set_option maxRecDepth 20000 in
theorem dX15_refusal_555 : decode cX15_refusal 555 = .ok (.ifCond .eq 7, 3) := by decide +kernel
set_option maxRecDepth 20000 in
theorem dX15_refusal_558 : decode cX15_refusal 558 = .ok (.iconst 0, 1) := by decide +kernel
set_option maxRecDepth 20000 in
theorem dX15_refusal_559 : decode cX15_refusal 559 = .ok (.goto 4, 3) := by decide +kernel
set_option maxRecDepth 20000 in
theorem dX15_refusal_562 : decode cX15_refusal 562 = .ok (.iconst 3, 1) := by decide +kernel
set_option maxRecDepth 20000 in
theorem dX15_refusal_563 : decode cX15_refusal 563 = .ok (.ireturn, 1) := by decide +kernel
set_option maxRecDepth 20000 in
theorem dX15_refusal_564 : decode cX15_refusal 564 = .ok (.aload_n 0, 1) := by decide +kernel
set_option maxRecDepth 20000 in
theorem dX15_refusal_565 : decode cX15_refusal 565 = .ok (.aload_n 1, 1) := by decide +kernel
set_option maxRecDepth 20000 in
theorem dX15_refusal_566 : decode cX15_refusal 566 = .ok (.iconst 1, 1) := by decide +kernel
set_option maxRecDepth 20000 in
theorem dX15_refusal_567 : decode cX15_refusal 567 = .ok (.invokestatic 85, 3) := by decide +kernel
set_option maxRecDepth 20000 in
theorem dX15_refusal_570 : decode cX15_refusal 570 = .ok (.invokevirtual 127, 3) := by decide +kernel
set_option maxRecDepth 20000 in
theorem dX15_refusal_573 : decode cX15_refusal 573 = .ok (.istore 4, 2) := by decide +kernel
set_option maxRecDepth 20000 in
theorem dX15_refusal_575 : decode cX15_refusal 575 = .ok (.iload 4, 2) := by decide +kernel
set_option maxRecDepth 20000 in
theorem dX15_refusal_577 : decode cX15_refusal 577 = .ok (.iconst (-1), 1) := by decide +kernel
set_option maxRecDepth 20000 in
theorem dX15_refusal_578 : decode cX15_refusal 578 = .ok (.if_icmp .ne 7, 3) := by decide +kernel
set_option maxRecDepth 20000 in
theorem dX15_refusal_581 : decode cX15_refusal 581 = .ok (.iconst 2, 1) := by decide +kernel
set_option maxRecDepth 20000 in
theorem dX15_refusal_582 : decode cX15_refusal 582 = .ok (.goto 20, 3) := by decide +kernel
set_option maxRecDepth 20000 in
theorem dX15_refusal_585 : decode cX15_refusal 585 = .ok (.aload_n 0, 1) := by decide +kernel
set_option maxRecDepth 20000 in
theorem dX15_refusal_586 : decode cX15_refusal 586 = .ok (.getfield 131, 3) := by decide +kernel
set_option maxRecDepth 20000 in
theorem dX15_refusal_589 : decode cX15_refusal 589 = .ok (.iload 4, 2) := by decide +kernel
set_option maxRecDepth 20000 in
theorem dX15_refusal_591 : decode cX15_refusal 591 = .ok (.iaload, 1) := by decide +kernel
set_option maxRecDepth 20000 in
theorem dX15_refusal_592 : decode cX15_refusal 592 = .ok (.bipush 31, 2) := by decide +kernel
set_option maxRecDepth 20000 in
theorem dX15_refusal_594 : decode cX15_refusal 594 = .ok (.if_icmp .le 7, 3) := by decide +kernel
set_option maxRecDepth 20000 in
theorem dX15_refusal_597 : decode cX15_refusal 597 = .ok (.iconst 3, 1) := by decide +kernel
set_option maxRecDepth 20000 in
theorem dX15_refusal_598 : decode cX15_refusal 598 = .ok (.goto 4, 3) := by decide +kernel
set_option maxRecDepth 20000 in
theorem dX15_refusal_601 : decode cX15_refusal 601 = .ok (.iconst 0, 1) := by decide +kernel
set_option maxRecDepth 20000 in
theorem dX15_refusal_602 : decode cX15_refusal 602 = .ok (.ireturn, 1) := by decide +kernel
set_option maxRecDepth 20000 in
theorem dX15_refusal_603 : decode cX15_refusal 603 = .ok (.aload_n 1, 1) := by decide +kernel
set_option maxRecDepth 20000 in
theorem dX15_refusal_604 : decode cX15_refusal 604 = .ok (.iconst 2, 1) := by decide +kernel
set_option maxRecDepth 20000 in
theorem dX15_refusal_605 : decode cX15_refusal 605 = .ok (.iaload, 1) := by decide +kernel
set_option maxRecDepth 20000 in
theorem dX15_refusal_606 : decode cX15_refusal 606 = .ok (.iconst 4, 1) := by decide +kernel
set_option maxRecDepth 20000 in
theorem dX15_refusal_607 : decode cX15_refusal 607 = .ok (.if_icmp .ne 18, 3) := by decide +kernel
set_option maxRecDepth 20000 in
theorem dX15_refusal_610 : decode cX15_refusal 610 = .ok (.aload_n 0, 1) := by decide +kernel
set_option maxRecDepth 20000 in
theorem dX15_refusal_611 : decode cX15_refusal 611 = .ok (.aload_n 1, 1) := by decide +kernel
set_option maxRecDepth 20000 in
theorem dX15_refusal_612 : decode cX15_refusal 612 = .ok (.iconst 3, 1) := by decide +kernel
set_option maxRecDepth 20000 in
theorem dX15_refusal_613 : decode cX15_refusal 613 = .ok (.iaload, 1) := by decide +kernel
set_option maxRecDepth 20000 in
theorem dX15_refusal_614 : decode cX15_refusal 614 = .ok (.invokevirtual 134, 3) := by decide +kernel
set_option maxRecDepth 20000 in
theorem dX15_refusal_617 : decode cX15_refusal 617 = .ok (.iconst (-1), 1) := by decide +kernel
set_option maxRecDepth 20000 in
theorem dX15_refusal_618 : decode cX15_refusal 618 = .ok (.if_icmp .ne 7, 3) := by decide +kernel
set_option maxRecDepth 20000 in
theorem dX15_refusal_621 : decode cX15_refusal 621 = .ok (.iconst 2, 1) := by decide +kernel
set_option maxRecDepth 20000 in
theorem dX15_refusal_622 : decode cX15_refusal 622 = .ok (.goto 4, 3) := by decide +kernel
set_option maxRecDepth 20000 in
theorem dX15_refusal_625 : decode cX15_refusal 625 = .ok (.iconst 0, 1) := by decide +kernel
set_option maxRecDepth 20000 in
theorem dX15_refusal_626 : decode cX15_refusal 626 = .ok (.ireturn, 1) := by decide +kernel
set_option maxRecDepth 20000 in
theorem dX15_refusal_627 : decode cX15_refusal 627 = .ok (.iconst 0, 1) := by decide +kernel
set_option maxRecDepth 20000 in
theorem dX15_refusal_628 : decode cX15_refusal 628 = .ok (.ireturn, 1) := by decide +kernel
set_option maxRecDepth 20000 in
theorem dX15_refusal8_0 : decode cX15_refusal8 0 = .ok (.iload_n 1, 1) := by decide +kernel
set_option maxRecDepth 20000 in
theorem dX15_refusal8_1 : decode cX15_refusal8 1 = .ok (.iconst 3, 1) := by decide +kernel
set_option maxRecDepth 20000 in
theorem dX15_refusal8_2 : decode cX15_refusal8 2 = .ok (.if_icmp .ge 5, 3) := by decide +kernel
set_option maxRecDepth 20000 in
theorem dX15_refusal8_5 : decode cX15_refusal8 5 = .ok (.iconst 3, 1) := by decide +kernel
set_option maxRecDepth 20000 in
theorem dX15_refusal8_6 : decode cX15_refusal8 6 = .ok (.ireturn, 1) := by decide +kernel
set_option maxRecDepth 20000 in
theorem dX15_refusal8_7 : decode cX15_refusal8 7 = .ok (.aload_n 0, 1) := by decide +kernel
set_option maxRecDepth 20000 in
theorem dX15_refusal8_8 : decode cX15_refusal8 8 = .ok (.iconst 1, 1) := by decide +kernel
set_option maxRecDepth 20000 in
theorem dX15_refusal8_9 : decode cX15_refusal8 9 = .ok (.invokestatic 85, 3) := by decide +kernel
set_option maxRecDepth 20000 in
theorem dX15_refusal8_12 : decode cX15_refusal8 12 = .ok (.istore_n 2, 1) := by decide +kernel
set_option maxRecDepth 20000 in
theorem dX15_refusal8_13 : decode cX15_refusal8 13 = .ok (.iload_n 2, 1) := by decide +kernel
set_option maxRecDepth 20000 in
theorem dX15_refusal8_14 : decode cX15_refusal8 14 = .ok (.ifCond .ne 5, 3) := by decide +kernel
set_option maxRecDepth 20000 in
theorem dX15_refusal8_17 : decode cX15_refusal8 17 = .ok (.iconst 0, 1) := by decide +kernel
set_option maxRecDepth 20000 in
theorem dX15_refusal8_18 : decode cX15_refusal8 18 = .ok (.ireturn, 1) := by decide +kernel
set_option maxRecDepth 20000 in
theorem dX15_refusal8_19 : decode cX15_refusal8 19 = .ok (.iload_n 2, 1) := by decide +kernel
set_option maxRecDepth 20000 in
theorem dX15_refusal8_20 : decode cX15_refusal8 20 = .ok (.iconst 1, 1) := by decide +kernel
set_option maxRecDepth 20000 in
theorem dX15_refusal8_21 : decode cX15_refusal8 21 = .ok (.iconst 2, 1) := by decide +kernel
set_option maxRecDepth 20000 in
theorem dX15_refusal8_22 : decode cX15_refusal8 22 = .ok (.invokestatic 81, 3) := by decide +kernel
set_option maxRecDepth 20000 in
theorem dX15_refusal8_25 : decode cX15_refusal8 25 = .ok (.ifCond .ne 27, 3) := by decide +kernel
set_option maxRecDepth 20000 in
theorem dX15_refusal8_28 : decode cX15_refusal8 28 = .ok (.iload_n 2, 1) := by decide +kernel
set_option maxRecDepth 20000 in
theorem dX15_refusal8_29 : decode cX15_refusal8 29 = .ok (.iconst 4, 1) := by decide +kernel
set_option maxRecDepth 20000 in
theorem dX15_refusal8_30 : decode cX15_refusal8 30 = .ok (.if_icmp .eq 22, 3) := by decide +kernel
set_option maxRecDepth 20000 in
theorem dX15_refusal8_33 : decode cX15_refusal8 33 = .ok (.iload_n 2, 1) := by decide +kernel
set_option maxRecDepth 20000 in
theorem dX15_refusal8_34 : decode cX15_refusal8 34 = .ok (.bipush 10, 2) := by decide +kernel
set_option maxRecDepth 20000 in
theorem dX15_refusal8_36 : decode cX15_refusal8 36 = .ok (.bipush 18, 2) := by decide +kernel
set_option maxRecDepth 20000 in
theorem dX15_refusal8_38 : decode cX15_refusal8 38 = .ok (.invokestatic 81, 3) := by decide +kernel
set_option maxRecDepth 20000 in
theorem dX15_refusal8_41 : decode cX15_refusal8 41 = .ok (.ifCond .ne 11, 3) := by decide +kernel
set_option maxRecDepth 20000 in
theorem dX15_refusal8_44 : decode cX15_refusal8 44 = .ok (.iload_n 2, 1) := by decide +kernel
set_option maxRecDepth 20000 in
theorem dX15_refusal8_45 : decode cX15_refusal8 45 = .ok (.bipush 20, 2) := by decide +kernel
set_option maxRecDepth 20000 in
theorem dX15_refusal8_47 : decode cX15_refusal8 47 = .ok (.if_icmp .eq 5, 3) := by decide +kernel
set_option maxRecDepth 20000 in
theorem dX15_refusal8_50 : decode cX15_refusal8 50 = .ok (.iconst 1, 1) := by decide +kernel
set_option maxRecDepth 20000 in
theorem dX15_refusal8_51 : decode cX15_refusal8 51 = .ok (.ireturn, 1) := by decide +kernel
set_option maxRecDepth 20000 in
theorem dX15_refusal8_52 : decode cX15_refusal8 52 = .ok (.iload_n 1, 1) := by decide +kernel
set_option maxRecDepth 20000 in
theorem dX15_refusal8_53 : decode cX15_refusal8 53 = .ok (.iconst 5, 1) := by decide +kernel
set_option maxRecDepth 20000 in
theorem dX15_refusal8_54 : decode cX15_refusal8 54 = .ok (.if_icmp .eq 5, 3) := by decide +kernel
set_option maxRecDepth 20000 in
theorem dX15_refusal8_57 : decode cX15_refusal8 57 = .ok (.iconst 3, 1) := by decide +kernel
set_option maxRecDepth 20000 in
theorem dX15_refusal8_58 : decode cX15_refusal8 58 = .ok (.ireturn, 1) := by decide +kernel
set_option maxRecDepth 20000 in
theorem dX15_refusal8_59 : decode cX15_refusal8 59 = .ok (.aload_n 0, 1) := by decide +kernel
set_option maxRecDepth 20000 in
theorem dX15_refusal8_60 : decode cX15_refusal8 60 = .ok (.iconst 3, 1) := by decide +kernel
set_option maxRecDepth 20000 in
theorem dX15_refusal8_61 : decode cX15_refusal8 61 = .ok (.invokestatic 85, 3) := by decide +kernel
set_option maxRecDepth 20000 in
theorem dX15_refusal8_64 : decode cX15_refusal8 64 = .ok (.istore_n 3, 1) := by decide +kernel
set_option maxRecDepth 20000 in
theorem dX15_refusal8_65 : decode cX15_refusal8 65 = .ok (.iload_n 3, 1) := by decide +kernel
set_option maxRecDepth 20000 in
theorem dX15_refusal8_66 : decode cX15_refusal8 66 = .ok (.ifCond .eq 14, 3) := by decide +kernel
set_option maxRecDepth 20000 in
theorem dX15_refusal8_69 : decode cX15_refusal8 69 = .ok (.iload_n 2, 1) := by decide +kernel
set_option maxRecDepth 20000 in
theorem dX15_refusal8_70 : decode cX15_refusal8 70 = .ok (.iconst 1, 1) := by decide +kernel
set_option maxRecDepth 20000 in
theorem dX15_refusal8_71 : decode cX15_refusal8 71 = .ok (.if_icmp .ne 13, 3) := by decide +kernel
set_option maxRecDepth 20000 in
theorem dX15_refusal8_74 : decode cX15_refusal8 74 = .ok (.iload_n 3, 1) := by decide +kernel
set_option maxRecDepth 20000 in
theorem dX15_refusal8_75 : decode cX15_refusal8 75 = .ok (.ldc 110, 2) := by decide +kernel
set_option maxRecDepth 20000 in
theorem dX15_refusal8_77 : decode cX15_refusal8 77 = .ok (.if_icmp .ne 7, 3) := by decide +kernel
set_option maxRecDepth 20000 in
theorem dX15_refusal8_80 : decode cX15_refusal8 80 = .ok (.iconst 0, 1) := by decide +kernel
set_option maxRecDepth 20000 in
theorem dX15_refusal8_81 : decode cX15_refusal8 81 = .ok (.goto 4, 3) := by decide +kernel
set_option maxRecDepth 20000 in
theorem dX15_refusal8_84 : decode cX15_refusal8 84 = .ok (.iconst 3, 1) := by decide +kernel
set_option maxRecDepth 20000 in
theorem dX15_refusal8_85 : decode cX15_refusal8 85 = .ok (.ireturn, 1) := by decide +kernel
set_option maxRecDepth 20000 in
theorem dX15_mays_0 : decode cX15_mays 0 = .ok (.iconst 1, 1) := by decide +kernel
set_option maxRecDepth 20000 in
theorem dX15_mays_1 : decode cX15_mays 1 = .ok (.istore 5, 2) := by decide +kernel
set_option maxRecDepth 20000 in
theorem dX15_mays_3 : decode cX15_mays 3 = .ok (.iconst 0, 1) := by decide +kernel
set_option maxRecDepth 20000 in
theorem dX15_mays_4 : decode cX15_mays 4 = .ok (.istore 6, 2) := by decide +kernel
set_option maxRecDepth 20000 in
theorem dX15_mays_6 : decode cX15_mays 6 = .ok (.iload 6, 2) := by decide +kernel
set_option maxRecDepth 20000 in
theorem dX15_mays_8 : decode cX15_mays 8 = .ok (.iload_n 3, 1) := by decide +kernel
set_option maxRecDepth 20000 in
theorem dX15_mays_9 : decode cX15_mays 9 = .ok (.if_icmp .ge 43, 3) := by decide +kernel
set_option maxRecDepth 20000 in
theorem dX15_mays_12 : decode cX15_mays 12 = .ok (.iload 5, 2) := by decide +kernel
set_option maxRecDepth 20000 in
theorem dX15_mays_14 : decode cX15_mays 14 = .ok (.ifCond .eq 29, 3) := by decide +kernel
set_option maxRecDepth 20000 in
theorem dX15_mays_17 : decode cX15_mays 17 = .ok (.aload_n 0, 1) := by decide +kernel
set_option maxRecDepth 20000 in
theorem dX15_mays_18 : decode cX15_mays 18 = .ok (.iload_n 2, 1) := by decide +kernel
set_option maxRecDepth 20000 in
theorem dX15_mays_19 : decode cX15_mays 19 = .ok (.iload 6, 2) := by decide +kernel
set_option maxRecDepth 20000 in
theorem dX15_mays_21 : decode cX15_mays 21 = .ok (.iadd, 1) := by decide +kernel
set_option maxRecDepth 20000 in
theorem dX15_mays_22 : decode cX15_mays 22 = .ok (.aload_n 1, 1) := by decide +kernel
set_option maxRecDepth 20000 in
theorem dX15_mays_23 : decode cX15_mays 23 = .ok (.iload 4, 2) := by decide +kernel
set_option maxRecDepth 20000 in
theorem dX15_mays_25 : decode cX15_mays 25 = .ok (.iconst 2, 1) := by decide +kernel
set_option maxRecDepth 20000 in
theorem dX15_mays_26 : decode cX15_mays 26 = .ok (.iload 6, 2) := by decide +kernel
set_option maxRecDepth 20000 in
theorem dX15_mays_28 : decode cX15_mays 28 = .ok (.imul, 1) := by decide +kernel
set_option maxRecDepth 20000 in
theorem dX15_mays_29 : decode cX15_mays 29 = .ok (.iadd, 1) := by decide +kernel
set_option maxRecDepth 20000 in
theorem dX15_mays_30 : decode cX15_mays 30 = .ok (.invokestatic 85, 3) := by decide +kernel
set_option maxRecDepth 20000 in
theorem dX15_mays_33 : decode cX15_mays 33 = .ok (.invokevirtual 111, 3) := by decide +kernel
set_option maxRecDepth 20000 in
theorem dX15_mays_36 : decode cX15_mays 36 = .ok (.ifCond .eq 7, 3) := by decide +kernel
set_option maxRecDepth 20000 in
theorem dX15_mays_39 : decode cX15_mays 39 = .ok (.iconst 1, 1) := by decide +kernel
set_option maxRecDepth 20000 in
theorem dX15_mays_40 : decode cX15_mays 40 = .ok (.goto 4, 3) := by decide +kernel
set_option maxRecDepth 20000 in
theorem dX15_mays_43 : decode cX15_mays 43 = .ok (.iconst 0, 1) := by decide +kernel
set_option maxRecDepth 20000 in
theorem dX15_mays_44 : decode cX15_mays 44 = .ok (.istore 5, 2) := by decide +kernel
set_option maxRecDepth 20000 in
theorem dX15_mays_46 : decode cX15_mays 46 = .ok (.iinc 6 1, 3) := by decide +kernel
set_option maxRecDepth 20000 in
theorem dX15_mays_49 : decode cX15_mays 49 = .ok (.goto (-43), 3) := by decide +kernel
set_option maxRecDepth 20000 in
theorem dX15_mays_52 : decode cX15_mays 52 = .ok (.iload 5, 2) := by decide +kernel
set_option maxRecDepth 20000 in
theorem dX15_mays_54 : decode cX15_mays 54 = .ok (.ireturn, 1) := by decide +kernel
set_option maxRecDepth 20000 in
theorem dX15_masked_0 : decode cX15_masked 0 = .ok (.aload_n 1, 1) := by decide +kernel
set_option maxRecDepth 20000 in
theorem dX15_masked_1 : decode cX15_masked 1 = .ok (.iconst 3, 1) := by decide +kernel
set_option maxRecDepth 20000 in
theorem dX15_masked_2 : decode cX15_masked 2 = .ok (.invokestatic 85, 3) := by decide +kernel
set_option maxRecDepth 20000 in
theorem dX15_masked_5 : decode cX15_masked 5 = .ok (.istore_n 2, 1) := by decide +kernel
set_option maxRecDepth 20000 in
theorem dX15_masked_6 : decode cX15_masked 6 = .ok (.aload_n 1, 1) := by decide +kernel
set_option maxRecDepth 20000 in
theorem dX15_masked_7 : decode cX15_masked 7 = .ok (.iconst 5, 1) := by decide +kernel
set_option maxRecDepth 20000 in
theorem dX15_masked_8 : decode cX15_masked 8 = .ok (.invokestatic 85, 3) := by decide +kernel
set_option maxRecDepth 20000 in
theorem dX15_masked_11 : decode cX15_masked 11 = .ok (.istore_n 3, 1) := by decide +kernel
set_option maxRecDepth 20000 in
theorem dX15_masked_12 : decode cX15_masked 12 = .ok (.aload_n 0, 1) := by decide +kernel
set_option maxRecDepth 20000 in
theorem dX15_masked_13 : decode cX15_masked 13 = .ok (.iconst 2, 1) := by decide +kernel
set_option maxRecDepth 20000 in
theorem dX15_masked_14 : decode cX15_masked 14 = .ok (.aload_n 1, 1) := by decide +kernel
set_option maxRecDepth 20000 in
theorem dX15_masked_15 : decode cX15_masked 15 = .ok (.iconst 1, 1) := by decide +kernel
set_option maxRecDepth 20000 in
theorem dX15_masked_16 : decode cX15_masked 16 = .ok (.invokestatic 85, 3) := by decide +kernel
set_option maxRecDepth 20000 in
theorem dX15_masked_19 : decode cX15_masked 19 = .ok (.invokevirtual 137, 3) := by decide +kernel
set_option maxRecDepth 20000 in
theorem dX15_masked_22 : decode cX15_masked 22 = .ok (.iload_n 2, 1) := by decide +kernel
set_option maxRecDepth 20000 in
theorem dX15_masked_23 : decode cX15_masked 23 = .ok (.iand, 1) := by decide +kernel
set_option maxRecDepth 20000 in
theorem dX15_masked_24 : decode cX15_masked 24 = .ok (.iload_n 3, 1) := by decide +kernel
set_option maxRecDepth 20000 in
theorem dX15_masked_25 : decode cX15_masked 25 = .ok (.ldc 76, 2) := by decide +kernel
set_option maxRecDepth 20000 in
theorem dX15_masked_27 : decode cX15_masked 27 = .ok (.iload_n 2, 1) := by decide +kernel
set_option maxRecDepth 20000 in
theorem dX15_masked_28 : decode cX15_masked 28 = .ok (.isub, 1) := by decide +kernel
set_option maxRecDepth 20000 in
theorem dX15_masked_29 : decode cX15_masked 29 = .ok (.iand, 1) := by decide +kernel
set_option maxRecDepth 20000 in
theorem dX15_masked_30 : decode cX15_masked 30 = .ok (.ior, 1) := by decide +kernel
set_option maxRecDepth 20000 in
theorem dX15_masked_31 : decode cX15_masked 31 = .ok (.ireturn, 1) := by decide +kernel
set_option maxRecDepth 20000 in
theorem dX15_parts_0 : decode cX15_parts 0 = .ok (.iconst 2, 1) := by decide +kernel
set_option maxRecDepth 20000 in
theorem dX15_parts_1 : decode cX15_parts 1 = .ok (.istore_n 3, 1) := by decide +kernel
set_option maxRecDepth 20000 in
theorem dX15_parts_2 : decode cX15_parts 2 = .ok (.iload_n 3, 1) := by decide +kernel
set_option maxRecDepth 20000 in
theorem dX15_parts_3 : decode cX15_parts 3 = .ok (.iload_n 2, 1) := by decide +kernel
set_option maxRecDepth 20000 in
theorem dX15_parts_4 : decode cX15_parts 4 = .ok (.if_icmp .ge 87, 3) := by decide +kernel
set_option maxRecDepth 20000 in
theorem dX15_parts_7 : decode cX15_parts 7 = .ok (.aload_n 0, 1) := by decide +kernel
set_option maxRecDepth 20000 in
theorem dX15_parts_8 : decode cX15_parts 8 = .ok (.aload_n 1, 1) := by decide +kernel
set_option maxRecDepth 20000 in
theorem dX15_parts_9 : decode cX15_parts 9 = .ok (.iload_n 3, 1) := by decide +kernel
set_option maxRecDepth 20000 in
theorem dX15_parts_10 : decode cX15_parts 10 = .ok (.iconst 1, 1) := by decide +kernel
set_option maxRecDepth 20000 in
theorem dX15_parts_11 : decode cX15_parts 11 = .ok (.iadd, 1) := by decide +kernel
set_option maxRecDepth 20000 in
theorem dX15_parts_12 : decode cX15_parts 12 = .ok (.invokestatic 85, 3) := by decide +kernel
set_option maxRecDepth 20000 in
theorem dX15_parts_15 : decode cX15_parts 15 = .ok (.invokevirtual 141, 3) := by decide +kernel
set_option maxRecDepth 20000 in
theorem dX15_parts_18 : decode cX15_parts 18 = .ok (.istore 4, 2) := by decide +kernel
set_option maxRecDepth 20000 in
theorem dX15_parts_20 : decode cX15_parts 20 = .ok (.aload_n 1, 1) := by decide +kernel
set_option maxRecDepth 20000 in
theorem dX15_parts_21 : decode cX15_parts 21 = .ok (.iload_n 3, 1) := by decide +kernel
set_option maxRecDepth 20000 in
theorem dX15_parts_22 : decode cX15_parts 22 = .ok (.iaload, 1) := by decide +kernel
set_option maxRecDepth 20000 in
theorem dX15_parts_23 : decode cX15_parts 23 = .ok (.bipush 6, 2) := by decide +kernel
set_option maxRecDepth 20000 in
theorem dX15_parts_25 : decode cX15_parts 25 = .ok (.if_icmp .ne 34, 3) := by decide +kernel
set_option maxRecDepth 20000 in
theorem dX15_parts_28 : decode cX15_parts 28 = .ok (.iload 4, 2) := by decide +kernel
set_option maxRecDepth 20000 in
theorem dX15_parts_30 : decode cX15_parts 30 = .ok (.iconst (-1), 1) := by decide +kernel
set_option maxRecDepth 20000 in
theorem dX15_parts_31 : decode cX15_parts 31 = .ok (.if_icmp .eq 28, 3) := by decide +kernel
set_option maxRecDepth 20000 in
theorem dX15_parts_34 : decode cX15_parts 34 = .ok (.aload_n 1, 1) := by decide +kernel
set_option maxRecDepth 20000 in
theorem dX15_parts_35 : decode cX15_parts 35 = .ok (.iload_n 3, 1) := by decide +kernel
set_option maxRecDepth 20000 in
theorem dX15_parts_36 : decode cX15_parts 36 = .ok (.iconst 3, 1) := by decide +kernel
set_option maxRecDepth 20000 in
theorem dX15_parts_37 : decode cX15_parts 37 = .ok (.iadd, 1) := by decide +kernel
set_option maxRecDepth 20000 in
theorem dX15_parts_38 : decode cX15_parts 38 = .ok (.invokestatic 85, 3) := by decide +kernel
set_option maxRecDepth 20000 in
theorem dX15_parts_41 : decode cX15_parts 41 = .ok (.aload_n 1, 1) := by decide +kernel
set_option maxRecDepth 20000 in
theorem dX15_parts_42 : decode cX15_parts 42 = .ok (.iload_n 3, 1) := by decide +kernel
set_option maxRecDepth 20000 in
theorem dX15_parts_43 : decode cX15_parts 43 = .ok (.iconst 5, 1) := by decide +kernel
set_option maxRecDepth 20000 in
theorem dX15_parts_44 : decode cX15_parts 44 = .ok (.iadd, 1) := by decide +kernel
set_option maxRecDepth 20000 in
theorem dX15_parts_45 : decode cX15_parts 45 = .ok (.invokestatic 85, 3) := by decide +kernel
set_option maxRecDepth 20000 in
theorem dX15_parts_48 : decode cX15_parts 48 = .ok (.iadd, 1) := by decide +kernel
set_option maxRecDepth 20000 in
theorem dX15_parts_49 : decode cX15_parts 49 = .ok (.aload_n 0, 1) := by decide +kernel
set_option maxRecDepth 20000 in
theorem dX15_parts_50 : decode cX15_parts 50 = .ok (.getfield 144, 3) := by decide +kernel
set_option maxRecDepth 20000 in
theorem dX15_parts_53 : decode cX15_parts 53 = .ok (.iload 4, 2) := by decide +kernel
set_option maxRecDepth 20000 in
theorem dX15_parts_55 : decode cX15_parts 55 = .ok (.iaload, 1) := by decide +kernel
set_option maxRecDepth 20000 in
theorem dX15_parts_56 : decode cX15_parts 56 = .ok (.if_icmp .le 5, 3) := by decide +kernel
set_option maxRecDepth 20000 in
theorem dX15_parts_59 : decode cX15_parts 59 = .ok (.iconst 2, 1) := by decide +kernel
set_option maxRecDepth 20000 in
theorem dX15_parts_60 : decode cX15_parts 60 = .ok (.ireturn, 1) := by decide +kernel
set_option maxRecDepth 20000 in
theorem dX15_parts_61 : decode cX15_parts 61 = .ok (.iload_n 3, 1) := by decide +kernel
set_option maxRecDepth 20000 in
theorem dX15_parts_62 : decode cX15_parts 62 = .ok (.bipush 7, 2) := by decide +kernel
set_option maxRecDepth 20000 in
theorem dX15_parts_64 : decode cX15_parts 64 = .ok (.aload_n 1, 1) := by decide +kernel
set_option maxRecDepth 20000 in
theorem dX15_parts_65 : decode cX15_parts 65 = .ok (.iconst 0, 1) := by decide +kernel
set_option maxRecDepth 20000 in
theorem dX15_parts_66 : decode cX15_parts 66 = .ok (.iaload, 1) := by decide +kernel
set_option maxRecDepth 20000 in
theorem dX15_parts_67 : decode cX15_parts 67 = .ok (.bipush 21, 2) := by decide +kernel
set_option maxRecDepth 20000 in
theorem dX15_parts_69 : decode cX15_parts 69 = .ok (.if_icmp .ne 15, 3) := by decide +kernel
set_option maxRecDepth 20000 in
theorem dX15_parts_72 : decode cX15_parts 72 = .ok (.iconst 2, 1) := by decide +kernel
set_option maxRecDepth 20000 in
theorem dX15_parts_73 : decode cX15_parts 73 = .ok (.aload_n 1, 1) := by decide +kernel
set_option maxRecDepth 20000 in
theorem dX15_parts_74 : decode cX15_parts 74 = .ok (.iload_n 3, 1) := by decide +kernel
set_option maxRecDepth 20000 in
theorem dX15_parts_75 : decode cX15_parts 75 = .ok (.iconst 5, 1) := by decide +kernel
set_option maxRecDepth 20000 in
theorem dX15_parts_76 : decode cX15_parts 76 = .ok (.iadd, 1) := by decide +kernel
set_option maxRecDepth 20000 in
theorem dX15_parts_77 : decode cX15_parts 77 = .ok (.invokestatic 85, 3) := by decide +kernel
set_option maxRecDepth 20000 in
theorem dX15_parts_80 : decode cX15_parts 80 = .ok (.imul, 1) := by decide +kernel
set_option maxRecDepth 20000 in
theorem dX15_parts_81 : decode cX15_parts 81 = .ok (.goto 4, 3) := by decide +kernel
set_option maxRecDepth 20000 in
theorem dX15_parts_84 : decode cX15_parts 84 = .ok (.iconst 0, 1) := by decide +kernel
set_option maxRecDepth 20000 in
theorem dX15_parts_85 : decode cX15_parts 85 = .ok (.iadd, 1) := by decide +kernel
set_option maxRecDepth 20000 in
theorem dX15_parts_86 : decode cX15_parts 86 = .ok (.iadd, 1) := by decide +kernel
set_option maxRecDepth 20000 in
theorem dX15_parts_87 : decode cX15_parts 87 = .ok (.istore_n 3, 1) := by decide +kernel
set_option maxRecDepth 20000 in
theorem dX15_parts_88 : decode cX15_parts 88 = .ok (.goto (-86), 3) := by decide +kernel
set_option maxRecDepth 20000 in
theorem dX15_parts_91 : decode cX15_parts 91 = .ok (.iconst 0, 1) := by decide +kernel
set_option maxRecDepth 20000 in
theorem dX15_parts_92 : decode cX15_parts 92 = .ok (.ireturn, 1) := by decide +kernel
set_option maxRecDepth 20000 in
theorem dX15_serve_0 : decode cX15_serve 0 = .ok (.aload_n 0, 1) := by decide +kernel
set_option maxRecDepth 20000 in
theorem dX15_serve_1 : decode cX15_serve 1 = .ok (.iconst 0, 1) := by decide +kernel
set_option maxRecDepth 20000 in
theorem dX15_serve_2 : decode cX15_serve 2 = .ok (.putfield 89, 3) := by decide +kernel
set_option maxRecDepth 20000 in
theorem dX15_serve_5 : decode cX15_serve 5 = .ok (.iconst 0, 1) := by decide +kernel
set_option maxRecDepth 20000 in
theorem dX15_serve_6 : decode cX15_serve 6 = .ok (.istore 4, 2) := by decide +kernel
set_option maxRecDepth 20000 in
theorem dX15_serve_8 : decode cX15_serve 8 = .ok (.aload_n 1, 1) := by decide +kernel
set_option maxRecDepth 20000 in
theorem dX15_serve_9 : decode cX15_serve 9 = .ok (.getfield 147, 3) := by decide +kernel
set_option maxRecDepth 20000 in
theorem dX15_serve_12 : decode cX15_serve 12 = .ok (.ifCond .le 26, 3) := by decide +kernel
set_option maxRecDepth 20000 in
theorem dX15_serve_15 : decode cX15_serve 15 = .ok (.aload_n 1, 1) := by decide +kernel
set_option maxRecDepth 20000 in
theorem dX15_serve_16 : decode cX15_serve 16 = .ok (.dup, 1) := by decide +kernel
set_option maxRecDepth 20000 in
theorem dX15_serve_17 : decode cX15_serve 17 = .ok (.getfield 147, 3) := by decide +kernel
set_option maxRecDepth 20000 in
theorem dX15_serve_20 : decode cX15_serve 20 = .ok (.iconst 1, 1) := by decide +kernel
set_option maxRecDepth 20000 in
theorem dX15_serve_21 : decode cX15_serve 21 = .ok (.isub, 1) := by decide +kernel
set_option maxRecDepth 20000 in
theorem dX15_serve_22 : decode cX15_serve 22 = .ok (.putfield 147, 3) := by decide +kernel
set_option maxRecDepth 20000 in
theorem dX15_serve_25 : decode cX15_serve 25 = .ok (.aload_n 1, 1) := by decide +kernel
set_option maxRecDepth 20000 in
theorem dX15_serve_26 : decode cX15_serve 26 = .ok (.bipush 6, 2) := by decide +kernel
set_option maxRecDepth 20000 in
theorem dX15_serve_28 : decode cX15_serve 28 = .ok (.invokevirtual 150, 3) := by decide +kernel
set_option maxRecDepth 20000 in
theorem dX15_serve_31 : decode cX15_serve 31 = .ok (.bipush 6, 2) := by decide +kernel
set_option maxRecDepth 20000 in
theorem dX15_serve_33 : decode cX15_serve 33 = .ok (.istore 4, 2) := by decide +kernel
set_option maxRecDepth 20000 in
theorem dX15_serve_35 : decode cX15_serve 35 = .ok (.goto 11, 3) := by decide +kernel
set_option maxRecDepth 20000 in
theorem dX15_serve_38 : decode cX15_serve 38 = .ok (.aload_n 1, 1) := by decide +kernel
set_option maxRecDepth 20000 in
theorem dX15_serve_39 : decode cX15_serve 39 = .ok (.aload_n 2, 1) := by decide +kernel
set_option maxRecDepth 20000 in
theorem dX15_serve_40 : decode cX15_serve 40 = .ok (.iload_n 3, 1) := by decide +kernel
set_option maxRecDepth 20000 in
theorem dX15_serve_41 : decode cX15_serve 41 = .ok (.invokestatic 153, 3) := by decide +kernel
set_option maxRecDepth 20000 in
theorem dX15_serve_44 : decode cX15_serve 44 = .ok (.istore 4, 2) := by decide +kernel
set_option maxRecDepth 20000 in
theorem dX15_serve_46 : decode cX15_serve 46 = .ok (.iload 4, 2) := by decide +kernel
set_option maxRecDepth 20000 in
theorem dX15_serve_48 : decode cX15_serve 48 = .ok (.ifCond .le 21, 3) := by decide +kernel
set_option maxRecDepth 20000 in
theorem dX15_serve_51 : decode cX15_serve 51 = .ok (.aload_n 0, 1) := by decide +kernel
set_option maxRecDepth 20000 in
theorem dX15_serve_52 : decode cX15_serve 52 = .ok (.aload_n 2, 1) := by decide +kernel
set_option maxRecDepth 20000 in
theorem dX15_serve_53 : decode cX15_serve 53 = .ok (.iconst 0, 1) := by decide +kernel
set_option maxRecDepth 20000 in
theorem dX15_serve_54 : decode cX15_serve 54 = .ok (.iaload, 1) := by decide +kernel
set_option maxRecDepth 20000 in
theorem dX15_serve_55 : decode cX15_serve 55 = .ok (.sipush 128, 3) := by decide +kernel
set_option maxRecDepth 20000 in
theorem dX15_serve_58 : decode cX15_serve 58 = .ok (.iadd, 1) := by decide +kernel
set_option maxRecDepth 20000 in
theorem dX15_serve_59 : decode cX15_serve 59 = .ok (.invokevirtual 92, 3) := by decide +kernel
set_option maxRecDepth 20000 in
theorem dX15_serve_62 : decode cX15_serve 62 = .ok (.aload_n 0, 1) := by decide +kernel
set_option maxRecDepth 20000 in
theorem dX15_serve_63 : decode cX15_serve 63 = .ok (.iload 4, 2) := by decide +kernel
set_option maxRecDepth 20000 in
theorem dX15_serve_65 : decode cX15_serve 65 = .ok (.invokevirtual 92, 3) := by decide +kernel
set_option maxRecDepth 20000 in
theorem dX15_serve_68 : decode cX15_serve 68 = .ok (.return_, 1) := by decide +kernel
set_option maxRecDepth 20000 in
theorem dX15_serve_69 : decode cX15_serve 69 = .ok (.aload_n 2, 1) := by decide +kernel
set_option maxRecDepth 20000 in
theorem dX15_serve_70 : decode cX15_serve 70 = .ok (.iconst 0, 1) := by decide +kernel
set_option maxRecDepth 20000 in
theorem dX15_serve_71 : decode cX15_serve 71 = .ok (.iaload, 1) := by decide +kernel
set_option maxRecDepth 20000 in
theorem dX15_serve_72 : decode cX15_serve 72 = .ok (.bipush 11, 2) := by decide +kernel
set_option maxRecDepth 20000 in
theorem dX15_serve_74 : decode cX15_serve 74 = .ok (.if_icmp .eq 17, 3) := by decide +kernel
set_option maxRecDepth 20000 in
theorem dX15_serve_77 : decode cX15_serve 77 = .ok (.aload_n 2, 1) := by decide +kernel
set_option maxRecDepth 20000 in
theorem dX15_serve_78 : decode cX15_serve 78 = .ok (.iconst 0, 1) := by decide +kernel
set_option maxRecDepth 20000 in
theorem dX15_serve_79 : decode cX15_serve 79 = .ok (.iaload, 1) := by decide +kernel
set_option maxRecDepth 20000 in
theorem dX15_serve_80 : decode cX15_serve 80 = .ok (.bipush 12, 2) := by decide +kernel
set_option maxRecDepth 20000 in
theorem dX15_serve_82 : decode cX15_serve 82 = .ok (.if_icmp .eq 9, 3) := by decide +kernel
set_option maxRecDepth 20000 in
theorem dX15_serve_85 : decode cX15_serve 85 = .ok (.aload_n 1, 1) := by decide +kernel
set_option maxRecDepth 20000 in
theorem dX15_serve_86 : decode cX15_serve 86 = .ok (.bipush 8, 2) := by decide +kernel
set_option maxRecDepth 20000 in
theorem dX15_serve_88 : decode cX15_serve 88 = .ok (.invokevirtual 150, 3) := by decide +kernel
set_option maxRecDepth 20000 in
theorem dX15_serve_91 : decode cX15_serve 91 = .ok (.aload_n 2, 1) := by decide +kernel
set_option maxRecDepth 20000 in
theorem dX15_serve_92 : decode cX15_serve 92 = .ok (.iconst 0, 1) := by decide +kernel
set_option maxRecDepth 20000 in
theorem dX15_serve_93 : decode cX15_serve 93 = .ok (.iaload, 1) := by decide +kernel
set_option maxRecDepth 20000 in
theorem dX15_serve_94 : decode cX15_serve 94 = .ok (.tableswitch 723 1 24 #[110, 110, 133, 133, 159, 191, 215, 277, 723, 723, 287, 312, 723, 723, 387, 446, 498, 723, 723, 527, 537, 552, 577, 642], 110) := by decide +kernel
set_option maxRecDepth 20000 in
theorem dX15_serve_204 : decode cX15_serve 204 = .ok (.aload_n 0, 1) := by decide +kernel
set_option maxRecDepth 20000 in
theorem dX15_serve_205 : decode cX15_serve 205 = .ok (.aload_n 1, 1) := by decide +kernel
set_option maxRecDepth 20000 in
theorem dX15_serve_206 : decode cX15_serve 206 = .ok (.aload_n 2, 1) := by decide +kernel
set_option maxRecDepth 20000 in
theorem dX15_serve_207 : decode cX15_serve 207 = .ok (.iconst 0, 1) := by decide +kernel
set_option maxRecDepth 20000 in
theorem dX15_serve_208 : decode cX15_serve 208 = .ok (.iaload, 1) := by decide +kernel
set_option maxRecDepth 20000 in
theorem dX15_serve_209 : decode cX15_serve 209 = .ok (.iconst 1, 1) := by decide +kernel
set_option maxRecDepth 20000 in
theorem dX15_serve_210 : decode cX15_serve 210 = .ok (.isub, 1) := by decide +kernel
set_option maxRecDepth 20000 in
theorem dX15_serve_211 : decode cX15_serve 211 = .ok (.aload_n 2, 1) := by decide +kernel
set_option maxRecDepth 20000 in
theorem dX15_serve_212 : decode cX15_serve 212 = .ok (.iconst 1, 1) := by decide +kernel
set_option maxRecDepth 20000 in
theorem dX15_serve_213 : decode cX15_serve 213 = .ok (.invokestatic 85, 3) := by decide +kernel
set_option maxRecDepth 20000 in
theorem dX15_serve_216 : decode cX15_serve 216 = .ok (.aload_n 2, 1) := by decide +kernel
set_option maxRecDepth 20000 in
theorem dX15_serve_217 : decode cX15_serve 217 = .ok (.iconst 3, 1) := by decide +kernel
set_option maxRecDepth 20000 in
theorem dX15_serve_218 : decode cX15_serve 218 = .ok (.invokestatic 85, 3) := by decide +kernel
set_option maxRecDepth 20000 in
theorem dX15_serve_221 : decode cX15_serve 221 = .ok (.invokevirtual 156, 3) := by decide +kernel
set_option maxRecDepth 20000 in
theorem dX15_serve_224 : decode cX15_serve 224 = .ok (.goto 604, 3) := by decide +kernel
set_option maxRecDepth 20000 in
theorem dX15_serve_227 : decode cX15_serve 227 = .ok (.aload_n 0, 1) := by decide +kernel
set_option maxRecDepth 20000 in
theorem dX15_serve_228 : decode cX15_serve 228 = .ok (.aload_n 1, 1) := by decide +kernel
set_option maxRecDepth 20000 in
theorem dX15_serve_229 : decode cX15_serve 229 = .ok (.aload_n 2, 1) := by decide +kernel
set_option maxRecDepth 20000 in
theorem dX15_serve_230 : decode cX15_serve 230 = .ok (.iconst 0, 1) := by decide +kernel
set_option maxRecDepth 20000 in
theorem dX15_serve_231 : decode cX15_serve 231 = .ok (.iaload, 1) := by decide +kernel
set_option maxRecDepth 20000 in
theorem dX15_serve_232 : decode cX15_serve 232 = .ok (.aload_n 2, 1) := by decide +kernel
set_option maxRecDepth 20000 in
theorem dX15_serve_233 : decode cX15_serve 233 = .ok (.iconst 0, 1) := by decide +kernel
set_option maxRecDepth 20000 in
theorem dX15_serve_234 : decode cX15_serve 234 = .ok (.iaload, 1) := by decide +kernel
set_option maxRecDepth 20000 in
theorem dX15_serve_235 : decode cX15_serve 235 = .ok (.iconst 1, 1) := by decide +kernel
set_option maxRecDepth 20000 in
theorem dX15_serve_236 : decode cX15_serve 236 = .ok (.isub, 1) := by decide +kernel
set_option maxRecDepth 20000 in
theorem dX15_serve_237 : decode cX15_serve 237 = .ok (.aload_n 2, 1) := by decide +kernel
set_option maxRecDepth 20000 in
theorem dX15_serve_238 : decode cX15_serve 238 = .ok (.iconst 1, 1) := by decide +kernel
set_option maxRecDepth 20000 in
theorem dX15_serve_239 : decode cX15_serve 239 = .ok (.invokestatic 85, 3) := by decide +kernel
set_option maxRecDepth 20000 in
theorem dX15_serve_242 : decode cX15_serve 242 = .ok (.aload_n 2, 1) := by decide +kernel
set_option maxRecDepth 20000 in
theorem dX15_serve_243 : decode cX15_serve 243 = .ok (.iconst 3, 1) := by decide +kernel
set_option maxRecDepth 20000 in
theorem dX15_serve_244 : decode cX15_serve 244 = .ok (.invokestatic 85, 3) := by decide +kernel
set_option maxRecDepth 20000 in
theorem dX15_serve_247 : decode cX15_serve 247 = .ok (.invokevirtual 160, 3) := by decide +kernel
set_option maxRecDepth 20000 in
theorem dX15_serve_250 : decode cX15_serve 250 = .ok (.goto 578, 3) := by decide +kernel
set_option maxRecDepth 20000 in
theorem dX15_serve_253 : decode cX15_serve 253 = .ok (.aload_n 1, 1) := by decide +kernel
set_option maxRecDepth 20000 in
theorem dX15_serve_254 : decode cX15_serve 254 = .ok (.iconst 0, 1) := by decide +kernel
set_option maxRecDepth 20000 in
theorem dX15_serve_255 : decode cX15_serve 255 = .ok (.aload_n 2, 1) := by decide +kernel
set_option maxRecDepth 20000 in
theorem dX15_serve_256 : decode cX15_serve 256 = .ok (.iconst 1, 1) := by decide +kernel
set_option maxRecDepth 20000 in
theorem dX15_serve_257 : decode cX15_serve 257 = .ok (.invokestatic 85, 3) := by decide +kernel
set_option maxRecDepth 20000 in
theorem dX15_serve_260 : decode cX15_serve 260 = .ok (.aload_n 2, 1) := by decide +kernel
set_option maxRecDepth 20000 in
theorem dX15_serve_261 : decode cX15_serve 261 = .ok (.iconst 3, 1) := by decide +kernel
set_option maxRecDepth 20000 in
theorem dX15_serve_262 : decode cX15_serve 262 = .ok (.invokestatic 85, 3) := by decide +kernel
set_option maxRecDepth 20000 in
theorem dX15_serve_265 : decode cX15_serve 265 = .ok (.ifCond .ne 7, 3) := by decide +kernel
set_option maxRecDepth 20000 in
theorem dX15_serve_268 : decode cX15_serve 268 = .ok (.iconst 0, 1) := by decide +kernel
set_option maxRecDepth 20000 in
theorem dX15_serve_269 : decode cX15_serve 269 = .ok (.goto 4, 3) := by decide +kernel
set_option maxRecDepth 20000 in
theorem dX15_serve_272 : decode cX15_serve 272 = .ok (.iconst 1, 1) := by decide +kernel
set_option maxRecDepth 20000 in
theorem dX15_serve_273 : decode cX15_serve 273 = .ok (.invokevirtual 164, 3) := by decide +kernel
set_option maxRecDepth 20000 in
theorem dX15_serve_276 : decode cX15_serve 276 = .ok (.aload_n 0, 1) := by decide +kernel
set_option maxRecDepth 20000 in
theorem dX15_serve_277 : decode cX15_serve 277 = .ok (.aload_n 2, 1) := by decide +kernel
set_option maxRecDepth 20000 in
theorem dX15_serve_278 : decode cX15_serve 278 = .ok (.iconst 5, 1) := by decide +kernel
set_option maxRecDepth 20000 in
theorem dX15_serve_279 : decode cX15_serve 279 = .ok (.invokevirtual 168, 3) := by decide +kernel
set_option maxRecDepth 20000 in
theorem dX15_serve_282 : decode cX15_serve 282 = .ok (.goto 546, 3) := by decide +kernel
set_option maxRecDepth 20000 in
theorem dX15_serve_285 : decode cX15_serve 285 = .ok (.aload_n 1, 1) := by decide +kernel
set_option maxRecDepth 20000 in
theorem dX15_serve_286 : decode cX15_serve 286 = .ok (.iconst 2, 1) := by decide +kernel
set_option maxRecDepth 20000 in
theorem dX15_serve_287 : decode cX15_serve 287 = .ok (.aload_n 2, 1) := by decide +kernel
set_option maxRecDepth 20000 in
theorem dX15_serve_288 : decode cX15_serve 288 = .ok (.iconst 1, 1) := by decide +kernel
set_option maxRecDepth 20000 in
theorem dX15_serve_289 : decode cX15_serve 289 = .ok (.invokestatic 85, 3) := by decide +kernel
set_option maxRecDepth 20000 in
theorem dX15_serve_292 : decode cX15_serve 292 = .ok (.aload_n 2, 1) := by decide +kernel
set_option maxRecDepth 20000 in
theorem dX15_serve_293 : decode cX15_serve 293 = .ok (.iconst 3, 1) := by decide +kernel
set_option maxRecDepth 20000 in
theorem dX15_serve_294 : decode cX15_serve 294 = .ok (.invokestatic 85, 3) := by decide +kernel
set_option maxRecDepth 20000 in
theorem dX15_serve_297 : decode cX15_serve 297 = .ok (.invokevirtual 164, 3) := by decide +kernel
set_option maxRecDepth 20000 in
theorem dX15_serve_300 : decode cX15_serve 300 = .ok (.aload_n 0, 1) := by decide +kernel
set_option maxRecDepth 20000 in
theorem dX15_serve_301 : decode cX15_serve 301 = .ok (.aload_n 2, 1) := by decide +kernel
set_option maxRecDepth 20000 in
theorem dX15_serve_302 : decode cX15_serve 302 = .ok (.iconst 5, 1) := by decide +kernel
set_option maxRecDepth 20000 in
theorem dX15_serve_303 : decode cX15_serve 303 = .ok (.invokevirtual 168, 3) := by decide +kernel
set_option maxRecDepth 20000 in
theorem dX15_serve_306 : decode cX15_serve 306 = .ok (.goto 522, 3) := by decide +kernel
set_option maxRecDepth 20000 in
theorem dX15_serve_309 : decode cX15_serve 309 = .ok (.iconst 0, 1) := by decide +kernel
set_option maxRecDepth 20000 in
theorem dX15_serve_310 : decode cX15_serve 310 = .ok (.istore 5, 2) := by decide +kernel
set_option maxRecDepth 20000 in
theorem dX15_serve_312 : decode cX15_serve 312 = .ok (.iconst 0, 1) := by decide +kernel
set_option maxRecDepth 20000 in
theorem dX15_serve_313 : decode cX15_serve 313 = .ok (.istore 6, 2) := by decide +kernel
set_option maxRecDepth 20000 in
theorem dX15_serve_315 : decode cX15_serve 315 = .ok (.iload 6, 2) := by decide +kernel
set_option maxRecDepth 20000 in
theorem dX15_serve_317 : decode cX15_serve 317 = .ok (.bipush 8, 2) := by decide +kernel
set_option maxRecDepth 20000 in
theorem dX15_serve_319 : decode cX15_serve 319 = .ok (.if_icmp .ge 37, 3) := by decide +kernel
set_option maxRecDepth 20000 in
theorem dX15_serve_322 : decode cX15_serve 322 = .ok (.iload 6, 2) := by decide +kernel
set_option maxRecDepth 20000 in
theorem dX15_serve_324 : decode cX15_serve 324 = .ok (.aload_n 1, 1) := by decide +kernel
set_option maxRecDepth 20000 in
theorem dX15_serve_325 : decode cX15_serve 325 = .ok (.getfield 172, 3) := by decide +kernel
set_option maxRecDepth 20000 in
theorem dX15_serve_328 : decode cX15_serve 328 = .ok (.iconst 0, 1) := by decide +kernel
set_option maxRecDepth 20000 in
theorem dX15_serve_329 : decode cX15_serve 329 = .ok (.iaload, 1) := by decide +kernel
set_option maxRecDepth 20000 in
theorem dX15_serve_330 : decode cX15_serve 330 = .ok (.if_icmp .ge 26, 3) := by decide +kernel
set_option maxRecDepth 20000 in
theorem dX15_serve_333 : decode cX15_serve 333 = .ok (.iload 5, 2) := by decide +kernel
set_option maxRecDepth 20000 in
theorem dX15_serve_335 : decode cX15_serve 335 = .ok (.aload_n 1, 1) := by decide +kernel
set_option maxRecDepth 20000 in
theorem dX15_serve_336 : decode cX15_serve 336 = .ok (.getfield 175, 3) := by decide +kernel
set_option maxRecDepth 20000 in
theorem dX15_serve_339 : decode cX15_serve 339 = .ok (.iconst 0, 1) := by decide +kernel
set_option maxRecDepth 20000 in
theorem dX15_serve_340 : decode cX15_serve 340 = .ok (.aaload, 1) := by decide +kernel
set_option maxRecDepth 20000 in
theorem dX15_serve_341 : decode cX15_serve 341 = .ok (.iload 6, 2) := by decide +kernel
set_option maxRecDepth 20000 in
theorem dX15_serve_343 : decode cX15_serve 343 = .ok (.iaload, 1) := by decide +kernel
set_option maxRecDepth 20000 in
theorem dX15_serve_344 : decode cX15_serve 344 = .ok (.iload 6, 2) := by decide +kernel
set_option maxRecDepth 20000 in
theorem dX15_serve_346 : decode cX15_serve 346 = .ok (.ishl, 1) := by decide +kernel
set_option maxRecDepth 20000 in
theorem dX15_serve_347 : decode cX15_serve 347 = .ok (.iadd, 1) := by decide +kernel
set_option maxRecDepth 20000 in
theorem dX15_serve_348 : decode cX15_serve 348 = .ok (.istore 5, 2) := by decide +kernel
set_option maxRecDepth 20000 in
theorem dX15_serve_350 : decode cX15_serve 350 = .ok (.iinc 6 1, 3) := by decide +kernel
set_option maxRecDepth 20000 in
theorem dX15_serve_353 : decode cX15_serve 353 = .ok (.goto (-38), 3) := by decide +kernel
set_option maxRecDepth 20000 in
theorem dX15_serve_356 : decode cX15_serve 356 = .ok (.aload_n 0, 1) := by decide +kernel
set_option maxRecDepth 20000 in
theorem dX15_serve_357 : decode cX15_serve 357 = .ok (.bipush 7, 2) := by decide +kernel
set_option maxRecDepth 20000 in
theorem dX15_serve_359 : decode cX15_serve 359 = .ok (.invokevirtual 92, 3) := by decide +kernel
set_option maxRecDepth 20000 in
theorem dX15_serve_362 : decode cX15_serve 362 = .ok (.aload_n 0, 1) := by decide +kernel
set_option maxRecDepth 20000 in
theorem dX15_serve_363 : decode cX15_serve 363 = .ok (.iload 5, 2) := by decide +kernel
set_option maxRecDepth 20000 in
theorem dX15_serve_365 : decode cX15_serve 365 = .ok (.invokevirtual 92, 3) := by decide +kernel
set_option maxRecDepth 20000 in
theorem dX15_serve_368 : decode cX15_serve 368 = .ok (.goto 460, 3) := by decide +kernel
set_option maxRecDepth 20000 in
theorem dX15_serve_371 : decode cX15_serve 371 = .ok (.aload_n 0, 1) := by decide +kernel
set_option maxRecDepth 20000 in
theorem dX15_serve_372 : decode cX15_serve 372 = .ok (.aload_n 1, 1) := by decide +kernel
set_option maxRecDepth 20000 in
theorem dX15_serve_373 : decode cX15_serve 373 = .ok (.aload_n 2, 1) := by decide +kernel
set_option maxRecDepth 20000 in
theorem dX15_serve_374 : decode cX15_serve 374 = .ok (.iload_n 3, 1) := by decide +kernel
set_option maxRecDepth 20000 in
theorem dX15_serve_375 : decode cX15_serve 375 = .ok (.invokevirtual 179, 3) := by decide +kernel
set_option maxRecDepth 20000 in
theorem dX15_serve_378 : decode cX15_serve 378 = .ok (.goto 450, 3) := by decide +kernel
set_option maxRecDepth 20000 in
theorem dX15_serve_381 : decode cX15_serve 381 = .ok (.aload_n 0, 1) := by decide +kernel
set_option maxRecDepth 20000 in
theorem dX15_serve_382 : decode cX15_serve 382 = .ok (.bipush 11, 2) := by decide +kernel
set_option maxRecDepth 20000 in
theorem dX15_serve_384 : decode cX15_serve 384 = .ok (.invokevirtual 92, 3) := by decide +kernel
set_option maxRecDepth 20000 in
theorem dX15_serve_387 : decode cX15_serve 387 = .ok (.aload_n 0, 1) := by decide +kernel
set_option maxRecDepth 20000 in
theorem dX15_serve_388 : decode cX15_serve 388 = .ok (.iconst 0, 1) := by decide +kernel
set_option maxRecDepth 20000 in
theorem dX15_serve_389 : decode cX15_serve 389 = .ok (.invokevirtual 183, 3) := by decide +kernel
set_option maxRecDepth 20000 in
theorem dX15_serve_392 : decode cX15_serve 392 = .ok (.aload_n 0, 1) := by decide +kernel
set_option maxRecDepth 20000 in
theorem dX15_serve_393 : decode cX15_serve 393 = .ok (.aload_n 1, 1) := by decide +kernel
set_option maxRecDepth 20000 in
theorem dX15_serve_394 : decode cX15_serve 394 = .ok (.getfield 186, 3) := by decide +kernel
set_option maxRecDepth 20000 in
theorem dX15_serve_397 : decode cX15_serve 397 = .ok (.bipush 8, 2) := by decide +kernel
set_option maxRecDepth 20000 in
theorem dX15_serve_399 : decode cX15_serve 399 = .ok (.iaload, 1) := by decide +kernel
set_option maxRecDepth 20000 in
theorem dX15_serve_400 : decode cX15_serve 400 = .ok (.invokevirtual 183, 3) := by decide +kernel
set_option maxRecDepth 20000 in
theorem dX15_serve_403 : decode cX15_serve 403 = .ok (.goto 425, 3) := by decide +kernel
set_option maxRecDepth 20000 in
theorem dX15_serve_406 : decode cX15_serve 406 = .ok (.aload_n 0, 1) := by decide +kernel
set_option maxRecDepth 20000 in
theorem dX15_serve_407 : decode cX15_serve 407 = .ok (.bipush 12, 2) := by decide +kernel
set_option maxRecDepth 20000 in
theorem dX15_serve_409 : decode cX15_serve 409 = .ok (.invokevirtual 92, 3) := by decide +kernel
set_option maxRecDepth 20000 in
theorem dX15_serve_412 : decode cX15_serve 412 = .ok (.aload_n 0, 1) := by decide +kernel
set_option maxRecDepth 20000 in
theorem dX15_serve_413 : decode cX15_serve 413 = .ok (.bipush 6, 2) := by decide +kernel
set_option maxRecDepth 20000 in
theorem dX15_serve_415 : decode cX15_serve 415 = .ok (.aload_n 1, 1) := by decide +kernel
set_option maxRecDepth 20000 in
theorem dX15_serve_416 : decode cX15_serve 416 = .ok (.getfield 189, 3) := by decide +kernel
set_option maxRecDepth 20000 in
theorem dX15_serve_419 : decode cX15_serve 419 = .ok (.iadd, 1) := by decide +kernel
set_option maxRecDepth 20000 in
theorem dX15_serve_420 : decode cX15_serve 420 = .ok (.invokevirtual 92, 3) := by decide +kernel
set_option maxRecDepth 20000 in
theorem dX15_serve_423 : decode cX15_serve 423 = .ok (.aload_n 0, 1) := by decide +kernel
set_option maxRecDepth 20000 in
theorem dX15_serve_424 : decode cX15_serve 424 = .ok (.iconst 0, 1) := by decide +kernel
set_option maxRecDepth 20000 in
theorem dX15_serve_425 : decode cX15_serve 425 = .ok (.invokevirtual 183, 3) := by decide +kernel
set_option maxRecDepth 20000 in
theorem dX15_serve_428 : decode cX15_serve 428 = .ok (.aload_n 0, 1) := by decide +kernel
set_option maxRecDepth 20000 in
theorem dX15_serve_429 : decode cX15_serve 429 = .ok (.aload_n 1, 1) := by decide +kernel
set_option maxRecDepth 20000 in
theorem dX15_serve_430 : decode cX15_serve 430 = .ok (.getfield 186, 3) := by decide +kernel
set_option maxRecDepth 20000 in
theorem dX15_serve_433 : decode cX15_serve 433 = .ok (.bipush 8, 2) := by decide +kernel
set_option maxRecDepth 20000 in
theorem dX15_serve_435 : decode cX15_serve 435 = .ok (.iaload, 1) := by decide +kernel
set_option maxRecDepth 20000 in
theorem dX15_serve_436 : decode cX15_serve 436 = .ok (.invokevirtual 183, 3) := by decide +kernel
set_option maxRecDepth 20000 in
theorem dX15_serve_439 : decode cX15_serve 439 = .ok (.aload_n 0, 1) := by decide +kernel
set_option maxRecDepth 20000 in
theorem dX15_serve_440 : decode cX15_serve 440 = .ok (.aload_n 1, 1) := by decide +kernel
set_option maxRecDepth 20000 in
theorem dX15_serve_441 : decode cX15_serve 441 = .ok (.getfield 186, 3) := by decide +kernel
set_option maxRecDepth 20000 in
theorem dX15_serve_444 : decode cX15_serve 444 = .ok (.iconst 0, 1) := by decide +kernel
set_option maxRecDepth 20000 in
theorem dX15_serve_445 : decode cX15_serve 445 = .ok (.iaload, 1) := by decide +kernel
set_option maxRecDepth 20000 in
theorem dX15_serve_446 : decode cX15_serve 446 = .ok (.invokevirtual 183, 3) := by decide +kernel
set_option maxRecDepth 20000 in
theorem dX15_serve_449 : decode cX15_serve 449 = .ok (.iconst 0, 1) := by decide +kernel
set_option maxRecDepth 20000 in
theorem dX15_serve_450 : decode cX15_serve 450 = .ok (.istore 5, 2) := by decide +kernel
set_option maxRecDepth 20000 in
theorem dX15_serve_452 : decode cX15_serve 452 = .ok (.iload 5, 2) := by decide +kernel
set_option maxRecDepth 20000 in
theorem dX15_serve_454 : decode cX15_serve 454 = .ok (.aload_n 1, 1) := by decide +kernel
set_option maxRecDepth 20000 in
theorem dX15_serve_455 : decode cX15_serve 455 = .ok (.getfield 189, 3) := by decide +kernel
set_option maxRecDepth 20000 in
theorem dX15_serve_458 : decode cX15_serve 458 = .ok (.if_icmp .ge 20, 3) := by decide +kernel
set_option maxRecDepth 20000 in
theorem dX15_serve_461 : decode cX15_serve 461 = .ok (.aload_n 0, 1) := by decide +kernel
set_option maxRecDepth 20000 in
theorem dX15_serve_462 : decode cX15_serve 462 = .ok (.aload_n 1, 1) := by decide +kernel
set_option maxRecDepth 20000 in
theorem dX15_serve_463 : decode cX15_serve 463 = .ok (.getfield 192, 3) := by decide +kernel
set_option maxRecDepth 20000 in
theorem dX15_serve_466 : decode cX15_serve 466 = .ok (.iload 5, 2) := by decide +kernel
set_option maxRecDepth 20000 in
theorem dX15_serve_468 : decode cX15_serve 468 = .ok (.iaload, 1) := by decide +kernel
set_option maxRecDepth 20000 in
theorem dX15_serve_469 : decode cX15_serve 469 = .ok (.invokevirtual 92, 3) := by decide +kernel
set_option maxRecDepth 20000 in
theorem dX15_serve_472 : decode cX15_serve 472 = .ok (.iinc 5 1, 3) := by decide +kernel
set_option maxRecDepth 20000 in
theorem dX15_serve_475 : decode cX15_serve 475 = .ok (.goto (-23), 3) := by decide +kernel
set_option maxRecDepth 20000 in
theorem dX15_serve_478 : decode cX15_serve 478 = .ok (.goto 350, 3) := by decide +kernel
set_option maxRecDepth 20000 in
theorem dX15_serve_481 : decode cX15_serve 481 = .ok (.iconst 0, 1) := by decide +kernel
set_option maxRecDepth 20000 in
theorem dX15_serve_482 : decode cX15_serve 482 = .ok (.istore 5, 2) := by decide +kernel
set_option maxRecDepth 20000 in
theorem dX15_serve_484 : decode cX15_serve 484 = .ok (.iload 5, 2) := by decide +kernel
set_option maxRecDepth 20000 in
theorem dX15_serve_486 : decode cX15_serve 486 = .ok (.aload_n 2, 1) := by decide +kernel
set_option maxRecDepth 20000 in
theorem dX15_serve_487 : decode cX15_serve 487 = .ok (.iconst 3, 1) := by decide +kernel
set_option maxRecDepth 20000 in
theorem dX15_serve_488 : decode cX15_serve 488 = .ok (.invokestatic 85, 3) := by decide +kernel
set_option maxRecDepth 20000 in
theorem dX15_serve_491 : decode cX15_serve 491 = .ok (.if_icmp .ge 40, 3) := by decide +kernel
set_option maxRecDepth 20000 in
theorem dX15_serve_494 : decode cX15_serve 494 = .ok (.aload_n 1, 1) := by decide +kernel
set_option maxRecDepth 20000 in
theorem dX15_serve_495 : decode cX15_serve 495 = .ok (.iconst 0, 1) := by decide +kernel
set_option maxRecDepth 20000 in
theorem dX15_serve_496 : decode cX15_serve 496 = .ok (.aload_n 2, 1) := by decide +kernel
set_option maxRecDepth 20000 in
theorem dX15_serve_497 : decode cX15_serve 497 = .ok (.iconst 1, 1) := by decide +kernel
set_option maxRecDepth 20000 in
theorem dX15_serve_498 : decode cX15_serve 498 = .ok (.invokestatic 85, 3) := by decide +kernel
set_option maxRecDepth 20000 in
theorem dX15_serve_501 : decode cX15_serve 501 = .ok (.iload 5, 2) := by decide +kernel
set_option maxRecDepth 20000 in
theorem dX15_serve_503 : decode cX15_serve 503 = .ok (.iadd, 1) := by decide +kernel
set_option maxRecDepth 20000 in
theorem dX15_serve_504 : decode cX15_serve 504 = .ok (.aload_n 2, 1) := by decide +kernel
set_option maxRecDepth 20000 in
theorem dX15_serve_505 : decode cX15_serve 505 = .ok (.bipush 6, 2) := by decide +kernel
set_option maxRecDepth 20000 in
theorem dX15_serve_507 : decode cX15_serve 507 = .ok (.iload 5, 2) := by decide +kernel
set_option maxRecDepth 20000 in
theorem dX15_serve_509 : decode cX15_serve 509 = .ok (.bipush 8, 2) := by decide +kernel
set_option maxRecDepth 20000 in
theorem dX15_serve_511 : decode cX15_serve 511 = .ok (.idiv, 1) := by decide +kernel
set_option maxRecDepth 20000 in
theorem dX15_serve_512 : decode cX15_serve 512 = .ok (.iadd, 1) := by decide +kernel
set_option maxRecDepth 20000 in
theorem dX15_serve_513 : decode cX15_serve 513 = .ok (.iaload, 1) := by decide +kernel
set_option maxRecDepth 20000 in
theorem dX15_serve_514 : decode cX15_serve 514 = .ok (.iload 5, 2) := by decide +kernel
set_option maxRecDepth 20000 in
theorem dX15_serve_516 : decode cX15_serve 516 = .ok (.bipush 8, 2) := by decide +kernel
set_option maxRecDepth 20000 in
theorem dX15_serve_518 : decode cX15_serve 518 = .ok (.irem, 1) := by decide +kernel
set_option maxRecDepth 20000 in
theorem dX15_serve_519 : decode cX15_serve 519 = .ok (.ishr, 1) := by decide +kernel
set_option maxRecDepth 20000 in
theorem dX15_serve_520 : decode cX15_serve 520 = .ok (.iconst 1, 1) := by decide +kernel
set_option maxRecDepth 20000 in
theorem dX15_serve_521 : decode cX15_serve 521 = .ok (.iand, 1) := by decide +kernel
set_option maxRecDepth 20000 in
theorem dX15_serve_522 : decode cX15_serve 522 = .ok (.invokevirtual 164, 3) := by decide +kernel
set_option maxRecDepth 20000 in
theorem dX15_serve_525 : decode cX15_serve 525 = .ok (.iinc 5 1, 3) := by decide +kernel
set_option maxRecDepth 20000 in
theorem dX15_serve_528 : decode cX15_serve 528 = .ok (.goto (-44), 3) := by decide +kernel
set_option maxRecDepth 20000 in
theorem dX15_serve_531 : decode cX15_serve 531 = .ok (.aload_n 0, 1) := by decide +kernel
set_option maxRecDepth 20000 in
theorem dX15_serve_532 : decode cX15_serve 532 = .ok (.aload_n 2, 1) := by decide +kernel
set_option maxRecDepth 20000 in
theorem dX15_serve_533 : decode cX15_serve 533 = .ok (.iconst 5, 1) := by decide +kernel
set_option maxRecDepth 20000 in
theorem dX15_serve_534 : decode cX15_serve 534 = .ok (.invokevirtual 168, 3) := by decide +kernel
set_option maxRecDepth 20000 in
theorem dX15_serve_537 : decode cX15_serve 537 = .ok (.goto 291, 3) := by decide +kernel
set_option maxRecDepth 20000 in
theorem dX15_serve_540 : decode cX15_serve 540 = .ok (.iconst 0, 1) := by decide +kernel
set_option maxRecDepth 20000 in
theorem dX15_serve_541 : decode cX15_serve 541 = .ok (.istore 5, 2) := by decide +kernel
set_option maxRecDepth 20000 in
theorem dX15_serve_543 : decode cX15_serve 543 = .ok (.iload 5, 2) := by decide +kernel
set_option maxRecDepth 20000 in
theorem dX15_serve_545 : decode cX15_serve 545 = .ok (.aload_n 2, 1) := by decide +kernel
set_option maxRecDepth 20000 in
theorem dX15_serve_546 : decode cX15_serve 546 = .ok (.iconst 3, 1) := by decide +kernel
set_option maxRecDepth 20000 in
theorem dX15_serve_547 : decode cX15_serve 547 = .ok (.invokestatic 85, 3) := by decide +kernel
set_option maxRecDepth 20000 in
theorem dX15_serve_550 : decode cX15_serve 550 = .ok (.if_icmp .ge 33, 3) := by decide +kernel
set_option maxRecDepth 20000 in
theorem dX15_serve_553 : decode cX15_serve 553 = .ok (.aload_n 1, 1) := by decide +kernel
set_option maxRecDepth 20000 in
theorem dX15_serve_554 : decode cX15_serve 554 = .ok (.iconst 2, 1) := by decide +kernel
set_option maxRecDepth 20000 in
theorem dX15_serve_555 : decode cX15_serve 555 = .ok (.aload_n 2, 1) := by decide +kernel
set_option maxRecDepth 20000 in
theorem dX15_serve_556 : decode cX15_serve 556 = .ok (.iconst 1, 1) := by decide +kernel
set_option maxRecDepth 20000 in
theorem dX15_serve_557 : decode cX15_serve 557 = .ok (.invokestatic 85, 3) := by decide +kernel
set_option maxRecDepth 20000 in
theorem dX15_serve_560 : decode cX15_serve 560 = .ok (.iload 5, 2) := by decide +kernel
set_option maxRecDepth 20000 in
theorem dX15_serve_562 : decode cX15_serve 562 = .ok (.iadd, 1) := by decide +kernel
set_option maxRecDepth 20000 in
theorem dX15_serve_563 : decode cX15_serve 563 = .ok (.aload_n 2, 1) := by decide +kernel
set_option maxRecDepth 20000 in
theorem dX15_serve_564 : decode cX15_serve 564 = .ok (.bipush 6, 2) := by decide +kernel
set_option maxRecDepth 20000 in
theorem dX15_serve_566 : decode cX15_serve 566 = .ok (.iconst 2, 1) := by decide +kernel
set_option maxRecDepth 20000 in
theorem dX15_serve_567 : decode cX15_serve 567 = .ok (.iload 5, 2) := by decide +kernel
set_option maxRecDepth 20000 in
theorem dX15_serve_569 : decode cX15_serve 569 = .ok (.imul, 1) := by decide +kernel
set_option maxRecDepth 20000 in
theorem dX15_serve_570 : decode cX15_serve 570 = .ok (.iadd, 1) := by decide +kernel
set_option maxRecDepth 20000 in
theorem dX15_serve_571 : decode cX15_serve 571 = .ok (.invokestatic 85, 3) := by decide +kernel
set_option maxRecDepth 20000 in
theorem dX15_serve_574 : decode cX15_serve 574 = .ok (.invokevirtual 164, 3) := by decide +kernel
set_option maxRecDepth 20000 in
theorem dX15_serve_577 : decode cX15_serve 577 = .ok (.iinc 5 1, 3) := by decide +kernel
set_option maxRecDepth 20000 in
theorem dX15_serve_580 : decode cX15_serve 580 = .ok (.goto (-37), 3) := by decide +kernel
set_option maxRecDepth 20000 in
theorem dX15_serve_583 : decode cX15_serve 583 = .ok (.aload_n 0, 1) := by decide +kernel
set_option maxRecDepth 20000 in
theorem dX15_serve_584 : decode cX15_serve 584 = .ok (.aload_n 2, 1) := by decide +kernel
set_option maxRecDepth 20000 in
theorem dX15_serve_585 : decode cX15_serve 585 = .ok (.iconst 5, 1) := by decide +kernel
set_option maxRecDepth 20000 in
theorem dX15_serve_586 : decode cX15_serve 586 = .ok (.invokevirtual 168, 3) := by decide +kernel
set_option maxRecDepth 20000 in
theorem dX15_serve_589 : decode cX15_serve 589 = .ok (.goto 239, 3) := by decide +kernel
set_option maxRecDepth 20000 in
theorem dX15_serve_592 : decode cX15_serve 592 = .ok (.aload_n 0, 1) := by decide +kernel
set_option maxRecDepth 20000 in
theorem dX15_serve_593 : decode cX15_serve 593 = .ok (.bipush 17, 2) := by decide +kernel
set_option maxRecDepth 20000 in
theorem dX15_serve_595 : decode cX15_serve 595 = .ok (.invokevirtual 92, 3) := by decide +kernel
set_option maxRecDepth 20000 in
theorem dX15_serve_598 : decode cX15_serve 598 = .ok (.aload_n 0, 1) := by decide +kernel
set_option maxRecDepth 20000 in
theorem dX15_serve_599 : decode cX15_serve 599 = .ok (.iconst 2, 1) := by decide +kernel
set_option maxRecDepth 20000 in
theorem dX15_serve_600 : decode cX15_serve 600 = .ok (.invokevirtual 92, 3) := by decide +kernel
set_option maxRecDepth 20000 in
theorem dX15_serve_603 : decode cX15_serve 603 = .ok (.aload_n 0, 1) := by decide +kernel
set_option maxRecDepth 20000 in
theorem dX15_serve_604 : decode cX15_serve 604 = .ok (.aload_n 1, 1) := by decide +kernel
set_option maxRecDepth 20000 in
theorem dX15_serve_605 : decode cX15_serve 605 = .ok (.getfield 195, 3) := by decide +kernel
set_option maxRecDepth 20000 in
theorem dX15_serve_608 : decode cX15_serve 608 = .ok (.invokevirtual 92, 3) := by decide +kernel
set_option maxRecDepth 20000 in
theorem dX15_serve_611 : decode cX15_serve 611 = .ok (.aload_n 0, 1) := by decide +kernel
set_option maxRecDepth 20000 in
theorem dX15_serve_612 : decode cX15_serve 612 = .ok (.sipush 255, 3) := by decide +kernel
set_option maxRecDepth 20000 in
theorem dX15_serve_615 : decode cX15_serve 615 = .ok (.invokevirtual 92, 3) := by decide +kernel
set_option maxRecDepth 20000 in
theorem dX15_serve_618 : decode cX15_serve 618 = .ok (.goto 210, 3) := by decide +kernel
set_option maxRecDepth 20000 in
theorem dX15_serve_621 : decode cX15_serve 621 = .ok (.aload_n 0, 1) := by decide +kernel
set_option maxRecDepth 20000 in
theorem dX15_serve_622 : decode cX15_serve 622 = .ok (.aload_n 1, 1) := by decide +kernel
set_option maxRecDepth 20000 in
theorem dX15_serve_623 : decode cX15_serve 623 = .ok (.aload_n 2, 1) := by decide +kernel
set_option maxRecDepth 20000 in
theorem dX15_serve_624 : decode cX15_serve 624 = .ok (.iload_n 3, 1) := by decide +kernel
set_option maxRecDepth 20000 in
theorem dX15_serve_625 : decode cX15_serve 625 = .ok (.invokevirtual 198, 3) := by decide +kernel
set_option maxRecDepth 20000 in
theorem dX15_serve_628 : decode cX15_serve 628 = .ok (.goto 200, 3) := by decide +kernel
set_option maxRecDepth 20000 in
theorem dX15_serve_631 : decode cX15_serve 631 = .ok (.aload_n 1, 1) := by decide +kernel
set_option maxRecDepth 20000 in
theorem dX15_serve_632 : decode cX15_serve 632 = .ok (.aload_n 2, 1) := by decide +kernel
set_option maxRecDepth 20000 in
theorem dX15_serve_633 : decode cX15_serve 633 = .ok (.iload_n 3, 1) := by decide +kernel
set_option maxRecDepth 20000 in
theorem dX15_serve_634 : decode cX15_serve 634 = .ok (.invokestatic 201, 3) := by decide +kernel
set_option maxRecDepth 20000 in
theorem dX15_serve_637 : decode cX15_serve 637 = .ok (.aload_n 0, 1) := by decide +kernel
set_option maxRecDepth 20000 in
theorem dX15_serve_638 : decode cX15_serve 638 = .ok (.aload_n 2, 1) := by decide +kernel
set_option maxRecDepth 20000 in
theorem dX15_serve_639 : decode cX15_serve 639 = .ok (.iload_n 3, 1) := by decide +kernel
set_option maxRecDepth 20000 in
theorem dX15_serve_640 : decode cX15_serve 640 = .ok (.invokevirtual 168, 3) := by decide +kernel
set_option maxRecDepth 20000 in
theorem dX15_serve_643 : decode cX15_serve 643 = .ok (.goto 185, 3) := by decide +kernel
set_option maxRecDepth 20000 in
theorem dX15_serve_646 : decode cX15_serve 646 = .ok (.aload_n 1, 1) := by decide +kernel
set_option maxRecDepth 20000 in
theorem dX15_serve_647 : decode cX15_serve 647 = .ok (.iconst 2, 1) := by decide +kernel
set_option maxRecDepth 20000 in
theorem dX15_serve_648 : decode cX15_serve 648 = .ok (.aload_n 2, 1) := by decide +kernel
set_option maxRecDepth 20000 in
theorem dX15_serve_649 : decode cX15_serve 649 = .ok (.iconst 1, 1) := by decide +kernel
set_option maxRecDepth 20000 in
theorem dX15_serve_650 : decode cX15_serve 650 = .ok (.invokestatic 85, 3) := by decide +kernel
set_option maxRecDepth 20000 in
theorem dX15_serve_653 : decode cX15_serve 653 = .ok (.aload_n 1, 1) := by decide +kernel
set_option maxRecDepth 20000 in
theorem dX15_serve_654 : decode cX15_serve 654 = .ok (.aload_n 2, 1) := by decide +kernel
set_option maxRecDepth 20000 in
theorem dX15_serve_655 : decode cX15_serve 655 = .ok (.invokestatic 123, 3) := by decide +kernel
set_option maxRecDepth 20000 in
theorem dX15_serve_658 : decode cX15_serve 658 = .ok (.invokevirtual 164, 3) := by decide +kernel
set_option maxRecDepth 20000 in
theorem dX15_serve_661 : decode cX15_serve 661 = .ok (.aload_n 0, 1) := by decide +kernel
set_option maxRecDepth 20000 in
theorem dX15_serve_662 : decode cX15_serve 662 = .ok (.aload_n 2, 1) := by decide +kernel
set_option maxRecDepth 20000 in
theorem dX15_serve_663 : decode cX15_serve 663 = .ok (.bipush 7, 2) := by decide +kernel
set_option maxRecDepth 20000 in
theorem dX15_serve_665 : decode cX15_serve 665 = .ok (.invokevirtual 168, 3) := by decide +kernel
set_option maxRecDepth 20000 in
theorem dX15_serve_668 : decode cX15_serve 668 = .ok (.goto 160, 3) := by decide +kernel
set_option maxRecDepth 20000 in
theorem dX15_serve_671 : decode cX15_serve 671 = .ok (.iconst 0, 1) := by decide +kernel
set_option maxRecDepth 20000 in
theorem dX15_serve_672 : decode cX15_serve 672 = .ok (.istore 5, 2) := by decide +kernel
set_option maxRecDepth 20000 in
theorem dX15_serve_674 : decode cX15_serve 674 = .ok (.iload 5, 2) := by decide +kernel
set_option maxRecDepth 20000 in
theorem dX15_serve_676 : decode cX15_serve 676 = .ok (.aload_n 2, 1) := by decide +kernel
set_option maxRecDepth 20000 in
theorem dX15_serve_677 : decode cX15_serve 677 = .ok (.bipush 7, 2) := by decide +kernel
set_option maxRecDepth 20000 in
theorem dX15_serve_679 : decode cX15_serve 679 = .ok (.invokestatic 85, 3) := by decide +kernel
set_option maxRecDepth 20000 in
theorem dX15_serve_682 : decode cX15_serve 682 = .ok (.if_icmp .ge 33, 3) := by decide +kernel
set_option maxRecDepth 20000 in
theorem dX15_serve_685 : decode cX15_serve 685 = .ok (.aload_n 1, 1) := by decide +kernel
set_option maxRecDepth 20000 in
theorem dX15_serve_686 : decode cX15_serve 686 = .ok (.iconst 2, 1) := by decide +kernel
set_option maxRecDepth 20000 in
theorem dX15_serve_687 : decode cX15_serve 687 = .ok (.aload_n 2, 1) := by decide +kernel
set_option maxRecDepth 20000 in
theorem dX15_serve_688 : decode cX15_serve 688 = .ok (.iconst 5, 1) := by decide +kernel
set_option maxRecDepth 20000 in
theorem dX15_serve_689 : decode cX15_serve 689 = .ok (.invokestatic 85, 3) := by decide +kernel
set_option maxRecDepth 20000 in
theorem dX15_serve_692 : decode cX15_serve 692 = .ok (.iload 5, 2) := by decide +kernel
set_option maxRecDepth 20000 in
theorem dX15_serve_694 : decode cX15_serve 694 = .ok (.iadd, 1) := by decide +kernel
set_option maxRecDepth 20000 in
theorem dX15_serve_695 : decode cX15_serve 695 = .ok (.aload_n 2, 1) := by decide +kernel
set_option maxRecDepth 20000 in
theorem dX15_serve_696 : decode cX15_serve 696 = .ok (.bipush 10, 2) := by decide +kernel
set_option maxRecDepth 20000 in
theorem dX15_serve_698 : decode cX15_serve 698 = .ok (.iconst 2, 1) := by decide +kernel
set_option maxRecDepth 20000 in
theorem dX15_serve_699 : decode cX15_serve 699 = .ok (.iload 5, 2) := by decide +kernel
set_option maxRecDepth 20000 in
theorem dX15_serve_701 : decode cX15_serve 701 = .ok (.imul, 1) := by decide +kernel
set_option maxRecDepth 20000 in
theorem dX15_serve_702 : decode cX15_serve 702 = .ok (.iadd, 1) := by decide +kernel
set_option maxRecDepth 20000 in
theorem dX15_serve_703 : decode cX15_serve 703 = .ok (.invokestatic 85, 3) := by decide +kernel
set_option maxRecDepth 20000 in
theorem dX15_serve_706 : decode cX15_serve 706 = .ok (.invokevirtual 164, 3) := by decide +kernel
set_option maxRecDepth 20000 in
theorem dX15_serve_709 : decode cX15_serve 709 = .ok (.iinc 5 1, 3) := by decide +kernel
set_option maxRecDepth 20000 in
theorem dX15_serve_712 : decode cX15_serve 712 = .ok (.goto (-38), 3) := by decide +kernel
set_option maxRecDepth 20000 in
theorem dX15_serve_715 : decode cX15_serve 715 = .ok (.aload_n 0, 1) := by decide +kernel
set_option maxRecDepth 20000 in
theorem dX15_serve_716 : decode cX15_serve 716 = .ok (.aload_n 1, 1) := by decide +kernel
set_option maxRecDepth 20000 in
theorem dX15_serve_717 : decode cX15_serve 717 = .ok (.bipush 23, 2) := by decide +kernel
set_option maxRecDepth 20000 in
theorem dX15_serve_719 : decode cX15_serve 719 = .ok (.iconst 2, 1) := by decide +kernel
set_option maxRecDepth 20000 in
theorem dX15_serve_720 : decode cX15_serve 720 = .ok (.aload_n 2, 1) := by decide +kernel
set_option maxRecDepth 20000 in
theorem dX15_serve_721 : decode cX15_serve 721 = .ok (.iconst 1, 1) := by decide +kernel
set_option maxRecDepth 20000 in
theorem dX15_serve_722 : decode cX15_serve 722 = .ok (.invokestatic 85, 3) := by decide +kernel
set_option maxRecDepth 20000 in
theorem dX15_serve_725 : decode cX15_serve 725 = .ok (.aload_n 2, 1) := by decide +kernel
set_option maxRecDepth 20000 in
theorem dX15_serve_726 : decode cX15_serve 726 = .ok (.iconst 3, 1) := by decide +kernel
set_option maxRecDepth 20000 in
theorem dX15_serve_727 : decode cX15_serve 727 = .ok (.invokestatic 85, 3) := by decide +kernel
set_option maxRecDepth 20000 in
theorem dX15_serve_730 : decode cX15_serve 730 = .ok (.invokevirtual 160, 3) := by decide +kernel
set_option maxRecDepth 20000 in
theorem dX15_serve_733 : decode cX15_serve 733 = .ok (.goto 95, 3) := by decide +kernel
set_option maxRecDepth 20000 in
theorem dX15_serve_736 : decode cX15_serve 736 = .ok (.aload_n 1, 1) := by decide +kernel
set_option maxRecDepth 20000 in
theorem dX15_serve_737 : decode cX15_serve 737 = .ok (.aload_n 2, 1) := by decide +kernel
set_option maxRecDepth 20000 in
theorem dX15_serve_738 : decode cX15_serve 738 = .ok (.iconst 1, 1) := by decide +kernel
set_option maxRecDepth 20000 in
theorem dX15_serve_739 : decode cX15_serve 739 = .ok (.invokestatic 85, 3) := by decide +kernel
set_option maxRecDepth 20000 in
theorem dX15_serve_742 : decode cX15_serve 742 = .ok (.invokevirtual 127, 3) := by decide +kernel
set_option maxRecDepth 20000 in
theorem dX15_serve_745 : decode cX15_serve 745 = .ok (.istore 5, 2) := by decide +kernel
set_option maxRecDepth 20000 in
theorem dX15_serve_747 : decode cX15_serve 747 = .ok (.aload_n 0, 1) := by decide +kernel
set_option maxRecDepth 20000 in
theorem dX15_serve_748 : decode cX15_serve 748 = .ok (.bipush 24, 2) := by decide +kernel
set_option maxRecDepth 20000 in
theorem dX15_serve_750 : decode cX15_serve 750 = .ok (.invokevirtual 92, 3) := by decide +kernel
set_option maxRecDepth 20000 in
theorem dX15_serve_753 : decode cX15_serve 753 = .ok (.aload_n 0, 1) := by decide +kernel
set_option maxRecDepth 20000 in
theorem dX15_serve_754 : decode cX15_serve 754 = .ok (.iconst 2, 1) := by decide +kernel
set_option maxRecDepth 20000 in
theorem dX15_serve_755 : decode cX15_serve 755 = .ok (.iconst 2, 1) := by decide +kernel
set_option maxRecDepth 20000 in
theorem dX15_serve_756 : decode cX15_serve 756 = .ok (.aload_n 1, 1) := by decide +kernel
set_option maxRecDepth 20000 in
theorem dX15_serve_757 : decode cX15_serve 757 = .ok (.getfield 131, 3) := by decide +kernel
set_option maxRecDepth 20000 in
theorem dX15_serve_760 : decode cX15_serve 760 = .ok (.iload 5, 2) := by decide +kernel
set_option maxRecDepth 20000 in
theorem dX15_serve_762 : decode cX15_serve 762 = .ok (.iaload, 1) := by decide +kernel
set_option maxRecDepth 20000 in
theorem dX15_serve_763 : decode cX15_serve 763 = .ok (.imul, 1) := by decide +kernel
set_option maxRecDepth 20000 in
theorem dX15_serve_764 : decode cX15_serve 764 = .ok (.iadd, 1) := by decide +kernel
set_option maxRecDepth 20000 in
theorem dX15_serve_765 : decode cX15_serve 765 = .ok (.invokevirtual 183, 3) := by decide +kernel
set_option maxRecDepth 20000 in
theorem dX15_serve_768 : decode cX15_serve 768 = .ok (.aload_n 0, 1) := by decide +kernel
set_option maxRecDepth 20000 in
theorem dX15_serve_769 : decode cX15_serve 769 = .ok (.aload_n 1, 1) := by decide +kernel
set_option maxRecDepth 20000 in
theorem dX15_serve_770 : decode cX15_serve 770 = .ok (.getfield 131, 3) := by decide +kernel
set_option maxRecDepth 20000 in
theorem dX15_serve_773 : decode cX15_serve 773 = .ok (.iload 5, 2) := by decide +kernel
set_option maxRecDepth 20000 in
theorem dX15_serve_775 : decode cX15_serve 775 = .ok (.iaload, 1) := by decide +kernel
set_option maxRecDepth 20000 in
theorem dX15_serve_776 : decode cX15_serve 776 = .ok (.invokevirtual 183, 3) := by decide +kernel
set_option maxRecDepth 20000 in
theorem dX15_serve_779 : decode cX15_serve 779 = .ok (.iconst 0, 1) := by decide +kernel
set_option maxRecDepth 20000 in
theorem dX15_serve_780 : decode cX15_serve 780 = .ok (.istore 6, 2) := by decide +kernel
set_option maxRecDepth 20000 in
theorem dX15_serve_782 : decode cX15_serve 782 = .ok (.iload 6, 2) := by decide +kernel
set_option maxRecDepth 20000 in
theorem dX15_serve_784 : decode cX15_serve 784 = .ok (.aload_n 1, 1) := by decide +kernel
set_option maxRecDepth 20000 in
theorem dX15_serve_785 : decode cX15_serve 785 = .ok (.getfield 131, 3) := by decide +kernel
set_option maxRecDepth 20000 in
theorem dX15_serve_788 : decode cX15_serve 788 = .ok (.iload 5, 2) := by decide +kernel
set_option maxRecDepth 20000 in
theorem dX15_serve_790 : decode cX15_serve 790 = .ok (.iaload, 1) := by decide +kernel
set_option maxRecDepth 20000 in
theorem dX15_serve_791 : decode cX15_serve 791 = .ok (.if_icmp .ge 23, 3) := by decide +kernel
set_option maxRecDepth 20000 in
theorem dX15_serve_794 : decode cX15_serve 794 = .ok (.aload_n 0, 1) := by decide +kernel
set_option maxRecDepth 20000 in
theorem dX15_serve_795 : decode cX15_serve 795 = .ok (.aload_n 1, 1) := by decide +kernel
set_option maxRecDepth 20000 in
theorem dX15_serve_796 : decode cX15_serve 796 = .ok (.getfield 204, 3) := by decide +kernel
set_option maxRecDepth 20000 in
theorem dX15_serve_799 : decode cX15_serve 799 = .ok (.iload 5, 2) := by decide +kernel
set_option maxRecDepth 20000 in
theorem dX15_serve_801 : decode cX15_serve 801 = .ok (.aaload, 1) := by decide +kernel
set_option maxRecDepth 20000 in
theorem dX15_serve_802 : decode cX15_serve 802 = .ok (.iload 6, 2) := by decide +kernel
set_option maxRecDepth 20000 in
theorem dX15_serve_804 : decode cX15_serve 804 = .ok (.iaload, 1) := by decide +kernel
set_option maxRecDepth 20000 in
theorem dX15_serve_805 : decode cX15_serve 805 = .ok (.invokevirtual 183, 3) := by decide +kernel
set_option maxRecDepth 20000 in
theorem dX15_serve_808 : decode cX15_serve 808 = .ok (.iinc 6 1, 3) := by decide +kernel
set_option maxRecDepth 20000 in
theorem dX15_serve_811 : decode cX15_serve 811 = .ok (.goto (-29), 3) := by decide +kernel
set_option maxRecDepth 20000 in
theorem dX15_serve_814 : decode cX15_serve 814 = .ok (.goto 14, 3) := by decide +kernel
set_option maxRecDepth 20000 in
theorem dX15_serve_817 : decode cX15_serve 817 = .ok (.aload_n 0, 1) := by decide +kernel
set_option maxRecDepth 20000 in
theorem dX15_serve_818 : decode cX15_serve 818 = .ok (.aload_n 1, 1) := by decide +kernel
set_option maxRecDepth 20000 in
theorem dX15_serve_819 : decode cX15_serve 819 = .ok (.aload_n 2, 1) := by decide +kernel
set_option maxRecDepth 20000 in
theorem dX15_serve_820 : decode cX15_serve 820 = .ok (.iconst 2, 1) := by decide +kernel
set_option maxRecDepth 20000 in
theorem dX15_serve_821 : decode cX15_serve 821 = .ok (.iaload, 1) := by decide +kernel
set_option maxRecDepth 20000 in
theorem dX15_serve_822 : decode cX15_serve 822 = .ok (.aload_n 2, 1) := by decide +kernel
set_option maxRecDepth 20000 in
theorem dX15_serve_823 : decode cX15_serve 823 = .ok (.iconst 3, 1) := by decide +kernel
set_option maxRecDepth 20000 in
theorem dX15_serve_824 : decode cX15_serve 824 = .ok (.iaload, 1) := by decide +kernel
set_option maxRecDepth 20000 in
theorem dX15_serve_825 : decode cX15_serve 825 = .ok (.invokevirtual 207, 3) := by decide +kernel
set_option maxRecDepth 20000 in
theorem dX15_serve_828 : decode cX15_serve 828 = .ok (.return_, 1) := by decide +kernel
set_option maxRecDepth 20000 in
theorem dX15_bits_0 : decode cX15_bits 0 = .ok (.aload_n 0, 1) := by decide +kernel
set_option maxRecDepth 20000 in
theorem dX15_bits_1 : decode cX15_bits 1 = .ok (.iload_n 2, 1) := by decide +kernel
set_option maxRecDepth 20000 in
theorem dX15_bits_2 : decode cX15_bits 2 = .ok (.iconst 1, 1) := by decide +kernel
set_option maxRecDepth 20000 in
theorem dX15_bits_3 : decode cX15_bits 3 = .ok (.iadd, 1) := by decide +kernel
set_option maxRecDepth 20000 in
theorem dX15_bits_4 : decode cX15_bits 4 = .ok (.invokevirtual 92, 3) := by decide +kernel
set_option maxRecDepth 20000 in
theorem dX15_bits_7 : decode cX15_bits 7 = .ok (.aload_n 0, 1) := by decide +kernel
set_option maxRecDepth 20000 in
theorem dX15_bits_8 : decode cX15_bits 8 = .ok (.iload 4, 2) := by decide +kernel
set_option maxRecDepth 20000 in
theorem dX15_bits_10 : decode cX15_bits 10 = .ok (.bipush 7, 2) := by decide +kernel
set_option maxRecDepth 20000 in
theorem dX15_bits_12 : decode cX15_bits 12 = .ok (.iadd, 1) := by decide +kernel
set_option maxRecDepth 20000 in
theorem dX15_bits_13 : decode cX15_bits 13 = .ok (.bipush 8, 2) := by decide +kernel
set_option maxRecDepth 20000 in
theorem dX15_bits_15 : decode cX15_bits 15 = .ok (.idiv, 1) := by decide +kernel
set_option maxRecDepth 20000 in
theorem dX15_bits_16 : decode cX15_bits 16 = .ok (.invokevirtual 92, 3) := by decide +kernel
set_option maxRecDepth 20000 in
theorem dX15_bits_19 : decode cX15_bits 19 = .ok (.iconst 0, 1) := by decide +kernel
set_option maxRecDepth 20000 in
theorem dX15_bits_20 : decode cX15_bits 20 = .ok (.istore 5, 2) := by decide +kernel
set_option maxRecDepth 20000 in
theorem dX15_bits_22 : decode cX15_bits 22 = .ok (.iload 5, 2) := by decide +kernel
set_option maxRecDepth 20000 in
theorem dX15_bits_24 : decode cX15_bits 24 = .ok (.iload 4, 2) := by decide +kernel
set_option maxRecDepth 20000 in
theorem dX15_bits_26 : decode cX15_bits 26 = .ok (.if_icmp .ge 64, 3) := by decide +kernel
set_option maxRecDepth 20000 in
theorem dX15_bits_29 : decode cX15_bits 29 = .ok (.iconst 0, 1) := by decide +kernel
set_option maxRecDepth 20000 in
theorem dX15_bits_30 : decode cX15_bits 30 = .ok (.istore 6, 2) := by decide +kernel
set_option maxRecDepth 20000 in
theorem dX15_bits_32 : decode cX15_bits 32 = .ok (.iconst 0, 1) := by decide +kernel
set_option maxRecDepth 20000 in
theorem dX15_bits_33 : decode cX15_bits 33 = .ok (.istore 7, 2) := by decide +kernel
set_option maxRecDepth 20000 in
theorem dX15_bits_35 : decode cX15_bits 35 = .ok (.iload 7, 2) := by decide +kernel
set_option maxRecDepth 20000 in
theorem dX15_bits_37 : decode cX15_bits 37 = .ok (.bipush 8, 2) := by decide +kernel
set_option maxRecDepth 20000 in
theorem dX15_bits_39 : decode cX15_bits 39 = .ok (.if_icmp .ge 39, 3) := by decide +kernel
set_option maxRecDepth 20000 in
theorem dX15_bits_42 : decode cX15_bits 42 = .ok (.iload 5, 2) := by decide +kernel
set_option maxRecDepth 20000 in
theorem dX15_bits_44 : decode cX15_bits 44 = .ok (.iload 7, 2) := by decide +kernel
set_option maxRecDepth 20000 in
theorem dX15_bits_46 : decode cX15_bits 46 = .ok (.iadd, 1) := by decide +kernel
set_option maxRecDepth 20000 in
theorem dX15_bits_47 : decode cX15_bits 47 = .ok (.iload 4, 2) := by decide +kernel
set_option maxRecDepth 20000 in
theorem dX15_bits_49 : decode cX15_bits 49 = .ok (.if_icmp .ge 29, 3) := by decide +kernel
set_option maxRecDepth 20000 in
theorem dX15_bits_52 : decode cX15_bits 52 = .ok (.iload 6, 2) := by decide +kernel
set_option maxRecDepth 20000 in
theorem dX15_bits_54 : decode cX15_bits 54 = .ok (.aload_n 1, 1) := by decide +kernel
set_option maxRecDepth 20000 in
theorem dX15_bits_55 : decode cX15_bits 55 = .ok (.iload_n 2, 1) := by decide +kernel
set_option maxRecDepth 20000 in
theorem dX15_bits_56 : decode cX15_bits 56 = .ok (.iload_n 3, 1) := by decide +kernel
set_option maxRecDepth 20000 in
theorem dX15_bits_57 : decode cX15_bits 57 = .ok (.iload 5, 2) := by decide +kernel
set_option maxRecDepth 20000 in
theorem dX15_bits_59 : decode cX15_bits 59 = .ok (.iadd, 1) := by decide +kernel
set_option maxRecDepth 20000 in
theorem dX15_bits_60 : decode cX15_bits 60 = .ok (.iload 7, 2) := by decide +kernel
set_option maxRecDepth 20000 in
theorem dX15_bits_62 : decode cX15_bits 62 = .ok (.iadd, 1) := by decide +kernel
set_option maxRecDepth 20000 in
theorem dX15_bits_63 : decode cX15_bits 63 = .ok (.invokevirtual 137, 3) := by decide +kernel
set_option maxRecDepth 20000 in
theorem dX15_bits_66 : decode cX15_bits 66 = .ok (.iload 7, 2) := by decide +kernel
set_option maxRecDepth 20000 in
theorem dX15_bits_68 : decode cX15_bits 68 = .ok (.ishl, 1) := by decide +kernel
set_option maxRecDepth 20000 in
theorem dX15_bits_69 : decode cX15_bits 69 = .ok (.iadd, 1) := by decide +kernel
set_option maxRecDepth 20000 in
theorem dX15_bits_70 : decode cX15_bits 70 = .ok (.istore 6, 2) := by decide +kernel
set_option maxRecDepth 20000 in
theorem dX15_bits_72 : decode cX15_bits 72 = .ok (.iinc 7 1, 3) := by decide +kernel
set_option maxRecDepth 20000 in
theorem dX15_bits_75 : decode cX15_bits 75 = .ok (.goto (-40), 3) := by decide +kernel
set_option maxRecDepth 20000 in
theorem dX15_bits_78 : decode cX15_bits 78 = .ok (.aload_n 0, 1) := by decide +kernel
set_option maxRecDepth 20000 in
theorem dX15_bits_79 : decode cX15_bits 79 = .ok (.iload 6, 2) := by decide +kernel
set_option maxRecDepth 20000 in
theorem dX15_bits_81 : decode cX15_bits 81 = .ok (.invokevirtual 92, 3) := by decide +kernel
set_option maxRecDepth 20000 in
theorem dX15_bits_84 : decode cX15_bits 84 = .ok (.iinc 5 8, 3) := by decide +kernel
set_option maxRecDepth 20000 in
theorem dX15_bits_87 : decode cX15_bits 87 = .ok (.goto (-65), 3) := by decide +kernel
set_option maxRecDepth 20000 in
theorem dX15_bits_90 : decode cX15_bits 90 = .ok (.return_, 1) := by decide +kernel
set_option maxRecDepth 20000 in
theorem dX15_values_0 : decode cX15_values 0 = .ok (.aload_n 0, 1) := by decide +kernel
set_option maxRecDepth 20000 in
theorem dX15_values_1 : decode cX15_values 1 = .ok (.iload_n 2, 1) := by decide +kernel
set_option maxRecDepth 20000 in
theorem dX15_values_2 : decode cX15_values 2 = .ok (.invokevirtual 92, 3) := by decide +kernel
set_option maxRecDepth 20000 in
theorem dX15_values_5 : decode cX15_values 5 = .ok (.aload_n 0, 1) := by decide +kernel
set_option maxRecDepth 20000 in
theorem dX15_values_6 : decode cX15_values 6 = .ok (.iconst 2, 1) := by decide +kernel
set_option maxRecDepth 20000 in
theorem dX15_values_7 : decode cX15_values 7 = .ok (.iload 5, 2) := by decide +kernel
set_option maxRecDepth 20000 in
theorem dX15_values_9 : decode cX15_values 9 = .ok (.imul, 1) := by decide +kernel
set_option maxRecDepth 20000 in
theorem dX15_values_10 : decode cX15_values 10 = .ok (.invokevirtual 92, 3) := by decide +kernel
set_option maxRecDepth 20000 in
theorem dX15_values_13 : decode cX15_values 13 = .ok (.iconst 0, 1) := by decide +kernel
set_option maxRecDepth 20000 in
theorem dX15_values_14 : decode cX15_values 14 = .ok (.istore 6, 2) := by decide +kernel
set_option maxRecDepth 20000 in
theorem dX15_values_16 : decode cX15_values 16 = .ok (.iload 6, 2) := by decide +kernel
set_option maxRecDepth 20000 in
theorem dX15_values_18 : decode cX15_values 18 = .ok (.iload 5, 2) := by decide +kernel
set_option maxRecDepth 20000 in
theorem dX15_values_20 : decode cX15_values 20 = .ok (.if_icmp .ge 23, 3) := by decide +kernel
set_option maxRecDepth 20000 in
theorem dX15_values_23 : decode cX15_values 23 = .ok (.aload_n 0, 1) := by decide +kernel
set_option maxRecDepth 20000 in
theorem dX15_values_24 : decode cX15_values 24 = .ok (.aload_n 1, 1) := by decide +kernel
set_option maxRecDepth 20000 in
theorem dX15_values_25 : decode cX15_values 25 = .ok (.iload_n 3, 1) := by decide +kernel
set_option maxRecDepth 20000 in
theorem dX15_values_26 : decode cX15_values 26 = .ok (.iload 4, 2) := by decide +kernel
set_option maxRecDepth 20000 in
theorem dX15_values_28 : decode cX15_values 28 = .ok (.iload 6, 2) := by decide +kernel
set_option maxRecDepth 20000 in
theorem dX15_values_30 : decode cX15_values 30 = .ok (.iadd, 1) := by decide +kernel
set_option maxRecDepth 20000 in
theorem dX15_values_31 : decode cX15_values 31 = .ok (.invokevirtual 137, 3) := by decide +kernel
set_option maxRecDepth 20000 in
theorem dX15_values_34 : decode cX15_values 34 = .ok (.invokevirtual 183, 3) := by decide +kernel
set_option maxRecDepth 20000 in
theorem dX15_values_37 : decode cX15_values 37 = .ok (.iinc 6 1, 3) := by decide +kernel
set_option maxRecDepth 20000 in
theorem dX15_values_40 : decode cX15_values 40 = .ok (.goto (-24), 3) := by decide +kernel
set_option maxRecDepth 20000 in
theorem dX15_values_43 : decode cX15_values 43 = .ok (.return_, 1) := by decide +kernel
set_option maxRecDepth 20000 in
theorem dX15_tests_0 : decode cX15_tests 0 = .ok (.aload_n 2, 1) := by decide +kernel
set_option maxRecDepth 20000 in
theorem dX15_tests_1 : decode cX15_tests 1 = .ok (.iconst 1, 1) := by decide +kernel
set_option maxRecDepth 20000 in
theorem dX15_tests_2 : decode cX15_tests 2 = .ok (.invokestatic 85, 3) := by decide +kernel
set_option maxRecDepth 20000 in
theorem dX15_tests_5 : decode cX15_tests 5 = .ok (.istore 4, 2) := by decide +kernel
set_option maxRecDepth 20000 in
theorem dX15_tests_7 : decode cX15_tests 7 = .ok (.iload 4, 2) := by decide +kernel
set_option maxRecDepth 20000 in
theorem dX15_tests_9 : decode cX15_tests 9 = .ok (.iconst 4, 1) := by decide +kernel
set_option maxRecDepth 20000 in
theorem dX15_tests_10 : decode cX15_tests 10 = .ok (.if_icmp .ne 14, 3) := by decide +kernel
set_option maxRecDepth 20000 in
theorem dX15_tests_13 : decode cX15_tests 13 = .ok (.aload_n 1, 1) := by decide +kernel
set_option maxRecDepth 20000 in
theorem dX15_tests_14 : decode cX15_tests 14 = .ok (.iconst 1, 1) := by decide +kernel
set_option maxRecDepth 20000 in
theorem dX15_tests_15 : decode cX15_tests 15 = .ok (.putfield 211, 3) := by decide +kernel
set_option maxRecDepth 20000 in
theorem dX15_tests_18 : decode cX15_tests 18 = .ok (.aload_n 1, 1) := by decide +kernel
set_option maxRecDepth 20000 in
theorem dX15_tests_19 : decode cX15_tests 19 = .ok (.iconst 4, 1) := by decide +kernel
set_option maxRecDepth 20000 in
theorem dX15_tests_20 : decode cX15_tests 20 = .ok (.invokevirtual 215, 3) := by decide +kernel
set_option maxRecDepth 20000 in
theorem dX15_tests_23 : decode cX15_tests 23 = .ok (.return_, 1) := by decide +kernel
set_option maxRecDepth 20000 in
theorem dX15_tests_24 : decode cX15_tests 24 = .ok (.iload 4, 2) := by decide +kernel
set_option maxRecDepth 20000 in
theorem dX15_tests_26 : decode cX15_tests 26 = .ok (.iconst 1, 1) := by decide +kernel
set_option maxRecDepth 20000 in
theorem dX15_tests_27 : decode cX15_tests 27 = .ok (.if_icmp .eq 10, 3) := by decide +kernel
set_option maxRecDepth 20000 in
theorem dX15_tests_30 : decode cX15_tests 30 = .ok (.iload 4, 2) := by decide +kernel
set_option maxRecDepth 20000 in
theorem dX15_tests_32 : decode cX15_tests 32 = .ok (.bipush 10, 2) := by decide +kernel
set_option maxRecDepth 20000 in
theorem dX15_tests_34 : decode cX15_tests 34 = .ok (.if_icmp .ne 27, 3) := by decide +kernel
set_option maxRecDepth 20000 in
theorem dX15_tests_37 : decode cX15_tests 37 = .ok (.iconst 0, 1) := by decide +kernel
set_option maxRecDepth 20000 in
theorem dX15_tests_38 : decode cX15_tests 38 = .ok (.istore 5, 2) := by decide +kernel
set_option maxRecDepth 20000 in
theorem dX15_tests_40 : decode cX15_tests 40 = .ok (.iload 5, 2) := by decide +kernel
set_option maxRecDepth 20000 in
theorem dX15_tests_42 : decode cX15_tests 42 = .ok (.bipush 9, 2) := by decide +kernel
set_option maxRecDepth 20000 in
theorem dX15_tests_44 : decode cX15_tests 44 = .ok (.if_icmp .ge 17, 3) := by decide +kernel
set_option maxRecDepth 20000 in
theorem dX15_tests_47 : decode cX15_tests 47 = .ok (.aload_n 1, 1) := by decide +kernel
set_option maxRecDepth 20000 in
theorem dX15_tests_48 : decode cX15_tests 48 = .ok (.getfield 186, 3) := by decide +kernel
set_option maxRecDepth 20000 in
theorem dX15_tests_51 : decode cX15_tests 51 = .ok (.iload 5, 2) := by decide +kernel
set_option maxRecDepth 20000 in
theorem dX15_tests_53 : decode cX15_tests 53 = .ok (.iconst 0, 1) := by decide +kernel
set_option maxRecDepth 20000 in
theorem dX15_tests_54 : decode cX15_tests 54 = .ok (.iastore, 1) := by decide +kernel
set_option maxRecDepth 20000 in
theorem dX15_tests_55 : decode cX15_tests 55 = .ok (.iinc 5 1, 3) := by decide +kernel
set_option maxRecDepth 20000 in
theorem dX15_tests_58 : decode cX15_tests 58 = .ok (.goto (-18), 3) := by decide +kernel
set_option maxRecDepth 20000 in
theorem dX15_tests_61 : decode cX15_tests 61 = .ok (.iload 4, 2) := by decide +kernel
set_option maxRecDepth 20000 in
theorem dX15_tests_63 : decode cX15_tests 63 = .ok (.iconst 1, 1) := by decide +kernel
set_option maxRecDepth 20000 in
theorem dX15_tests_64 : decode cX15_tests 64 = .ok (.if_icmp .ne 28, 3) := by decide +kernel
set_option maxRecDepth 20000 in
theorem dX15_tests_67 : decode cX15_tests 67 = .ok (.aload_n 2, 1) := by decide +kernel
set_option maxRecDepth 20000 in
theorem dX15_tests_68 : decode cX15_tests 68 = .ok (.iconst 3, 1) := by decide +kernel
set_option maxRecDepth 20000 in
theorem dX15_tests_69 : decode cX15_tests 69 = .ok (.invokestatic 85, 3) := by decide +kernel
set_option maxRecDepth 20000 in
theorem dX15_tests_72 : decode cX15_tests 72 = .ok (.ldc 110, 2) := by decide +kernel
set_option maxRecDepth 20000 in
theorem dX15_tests_74 : decode cX15_tests 74 = .ok (.if_icmp .ne 8, 3) := by decide +kernel
set_option maxRecDepth 20000 in
theorem dX15_tests_77 : decode cX15_tests 77 = .ok (.aload_n 1, 1) := by decide +kernel
set_option maxRecDepth 20000 in
theorem dX15_tests_78 : decode cX15_tests 78 = .ok (.iconst 0, 1) := by decide +kernel
set_option maxRecDepth 20000 in
theorem dX15_tests_79 : decode cX15_tests 79 = .ok (.putfield 189, 3) := by decide +kernel
set_option maxRecDepth 20000 in
theorem dX15_tests_82 : decode cX15_tests 82 = .ok (.aload_n 1, 1) := by decide +kernel
set_option maxRecDepth 20000 in
theorem dX15_tests_83 : decode cX15_tests 83 = .ok (.iconst 0, 1) := by decide +kernel
set_option maxRecDepth 20000 in
theorem dX15_tests_84 : decode cX15_tests 84 = .ok (.invokevirtual 215, 3) := by decide +kernel
set_option maxRecDepth 20000 in
theorem dX15_tests_87 : decode cX15_tests 87 = .ok (.aload_n 1, 1) := by decide +kernel
set_option maxRecDepth 20000 in
theorem dX15_tests_88 : decode cX15_tests 88 = .ok (.iconst 0, 1) := by decide +kernel
set_option maxRecDepth 20000 in
theorem dX15_tests_89 : decode cX15_tests 89 = .ok (.putfield 211, 3) := by decide +kernel
set_option maxRecDepth 20000 in
theorem dX15_tests_92 : decode cX15_tests 92 = .ok (.iload 4, 2) := by decide +kernel
set_option maxRecDepth 20000 in
theorem dX15_tests_94 : decode cX15_tests 94 = .ok (.bipush 20, 2) := by decide +kernel
set_option maxRecDepth 20000 in
theorem dX15_tests_96 : decode cX15_tests 96 = .ok (.if_icmp .ne 11, 3) := by decide +kernel
set_option maxRecDepth 20000 in
theorem dX15_tests_99 : decode cX15_tests 99 = .ok (.aload_n 1, 1) := by decide +kernel
set_option maxRecDepth 20000 in
theorem dX15_tests_100 : decode cX15_tests 100 = .ok (.getfield 186, 3) := by decide +kernel
set_option maxRecDepth 20000 in
theorem dX15_tests_103 : decode cX15_tests 103 = .ok (.bipush 7, 2) := by decide +kernel
set_option maxRecDepth 20000 in
theorem dX15_tests_105 : decode cX15_tests 105 = .ok (.iconst 0, 1) := by decide +kernel
set_option maxRecDepth 20000 in
theorem dX15_tests_106 : decode cX15_tests 106 = .ok (.iastore, 1) := by decide +kernel
set_option maxRecDepth 20000 in
theorem dX15_tests_107 : decode cX15_tests 107 = .ok (.iload 4, 2) := by decide +kernel
set_option maxRecDepth 20000 in
theorem dX15_tests_109 : decode cX15_tests 109 = .ok (.iconst 2, 1) := by decide +kernel
set_option maxRecDepth 20000 in
theorem dX15_tests_110 : decode cX15_tests 110 = .ok (.if_icmp .eq 15, 3) := by decide +kernel
set_option maxRecDepth 20000 in
theorem dX15_tests_113 : decode cX15_tests 113 = .ok (.iload 4, 2) := by decide +kernel
set_option maxRecDepth 20000 in
theorem dX15_tests_115 : decode cX15_tests 115 = .ok (.bipush 11, 2) := by decide +kernel
set_option maxRecDepth 20000 in
theorem dX15_tests_117 : decode cX15_tests 117 = .ok (.bipush 18, 2) := by decide +kernel
set_option maxRecDepth 20000 in
theorem dX15_tests_119 : decode cX15_tests 119 = .ok (.invokestatic 81, 3) := by decide +kernel
set_option maxRecDepth 20000 in
theorem dX15_tests_122 : decode cX15_tests 122 = .ok (.ifCond .eq 42, 3) := by decide +kernel
set_option maxRecDepth 20000 in
theorem dX15_tests_125 : decode cX15_tests 125 = .ok (.aload_n 0, 1) := by decide +kernel
set_option maxRecDepth 20000 in
theorem dX15_tests_126 : decode cX15_tests 126 = .ok (.bipush 8, 2) := by decide +kernel
set_option maxRecDepth 20000 in
theorem dX15_tests_128 : decode cX15_tests 128 = .ok (.invokevirtual 92, 3) := by decide +kernel
set_option maxRecDepth 20000 in
theorem dX15_tests_131 : decode cX15_tests 131 = .ok (.aload_n 0, 1) := by decide +kernel
set_option maxRecDepth 20000 in
theorem dX15_tests_132 : decode cX15_tests 132 = .ok (.iload 4, 2) := by decide +kernel
set_option maxRecDepth 20000 in
theorem dX15_tests_134 : decode cX15_tests 134 = .ok (.invokevirtual 183, 3) := by decide +kernel
set_option maxRecDepth 20000 in
theorem dX15_tests_137 : decode cX15_tests 137 = .ok (.aload_n 0, 1) := by decide +kernel
set_option maxRecDepth 20000 in
theorem dX15_tests_138 : decode cX15_tests 138 = .ok (.iload 4, 2) := by decide +kernel
set_option maxRecDepth 20000 in
theorem dX15_tests_140 : decode cX15_tests 140 = .ok (.iconst 2, 1) := by decide +kernel
set_option maxRecDepth 20000 in
theorem dX15_tests_141 : decode cX15_tests 141 = .ok (.if_icmp .ne 7, 3) := by decide +kernel
set_option maxRecDepth 20000 in
theorem dX15_tests_144 : decode cX15_tests 144 = .ok (.iconst 0, 1) := by decide +kernel
set_option maxRecDepth 20000 in
theorem dX15_tests_145 : decode cX15_tests 145 = .ok (.goto 13, 3) := by decide +kernel
set_option maxRecDepth 20000 in
theorem dX15_tests_148 : decode cX15_tests 148 = .ok (.aload_n 1, 1) := by decide +kernel
set_option maxRecDepth 20000 in
theorem dX15_tests_149 : decode cX15_tests 149 = .ok (.getfield 186, 3) := by decide +kernel
set_option maxRecDepth 20000 in
theorem dX15_tests_152 : decode cX15_tests 152 = .ok (.iload 4, 2) := by decide +kernel
set_option maxRecDepth 20000 in
theorem dX15_tests_154 : decode cX15_tests 154 = .ok (.bipush 11, 2) := by decide +kernel
set_option maxRecDepth 20000 in
theorem dX15_tests_156 : decode cX15_tests 156 = .ok (.isub, 1) := by decide +kernel
set_option maxRecDepth 20000 in
theorem dX15_tests_157 : decode cX15_tests 157 = .ok (.iaload, 1) := by decide +kernel
set_option maxRecDepth 20000 in
theorem dX15_tests_158 : decode cX15_tests 158 = .ok (.invokevirtual 183, 3) := by decide +kernel
set_option maxRecDepth 20000 in
theorem dX15_tests_161 : decode cX15_tests 161 = .ok (.goto 9, 3) := by decide +kernel
set_option maxRecDepth 20000 in
theorem dX15_tests_164 : decode cX15_tests 164 = .ok (.aload_n 0, 1) := by decide +kernel
set_option maxRecDepth 20000 in
theorem dX15_tests_165 : decode cX15_tests 165 = .ok (.aload_n 2, 1) := by decide +kernel
set_option maxRecDepth 20000 in
theorem dX15_tests_166 : decode cX15_tests 166 = .ok (.iload_n 3, 1) := by decide +kernel
set_option maxRecDepth 20000 in
theorem dX15_tests_167 : decode cX15_tests 167 = .ok (.invokevirtual 168, 3) := by decide +kernel
set_option maxRecDepth 20000 in
theorem dX15_tests_170 : decode cX15_tests 170 = .ok (.return_, 1) := by decide +kernel
set_option maxRecDepth 20000 in
theorem dX15_reads_0 : decode cX15_reads 0 = .ok (.aload_n 0, 1) := by decide +kernel
set_option maxRecDepth 20000 in
theorem dX15_reads_1 : decode cX15_reads 1 = .ok (.bipush 20, 2) := by decide +kernel
set_option maxRecDepth 20000 in
theorem dX15_reads_3 : decode cX15_reads 3 = .ok (.invokevirtual 92, 3) := by decide +kernel
set_option maxRecDepth 20000 in
theorem dX15_reads_6 : decode cX15_reads 6 = .ok (.aload_n 0, 1) := by decide +kernel
set_option maxRecDepth 20000 in
theorem dX15_reads_7 : decode cX15_reads 7 = .ok (.iconst 0, 1) := by decide +kernel
set_option maxRecDepth 20000 in
theorem dX15_reads_8 : decode cX15_reads 8 = .ok (.invokevirtual 92, 3) := by decide +kernel
set_option maxRecDepth 20000 in
theorem dX15_reads_11 : decode cX15_reads 11 = .ok (.iconst 2, 1) := by decide +kernel
set_option maxRecDepth 20000 in
theorem dX15_reads_12 : decode cX15_reads 12 = .ok (.istore 4, 2) := by decide +kernel
set_option maxRecDepth 20000 in
theorem dX15_reads_14 : decode cX15_reads 14 = .ok (.iload 4, 2) := by decide +kernel
set_option maxRecDepth 20000 in
theorem dX15_reads_16 : decode cX15_reads 16 = .ok (.iload_n 3, 1) := by decide +kernel
set_option maxRecDepth 20000 in
theorem dX15_reads_17 : decode cX15_reads 17 = .ok (.if_icmp .ge 88, 3) := by decide +kernel
set_option maxRecDepth 20000 in
theorem dX15_reads_20 : decode cX15_reads 20 = .ok (.aload_n 1, 1) := by decide +kernel
set_option maxRecDepth 20000 in
theorem dX15_reads_21 : decode cX15_reads 21 = .ok (.aload_n 2, 1) := by decide +kernel
set_option maxRecDepth 20000 in
theorem dX15_reads_22 : decode cX15_reads 22 = .ok (.iload 4, 2) := by decide +kernel
set_option maxRecDepth 20000 in
theorem dX15_reads_24 : decode cX15_reads 24 = .ok (.iconst 1, 1) := by decide +kernel
set_option maxRecDepth 20000 in
theorem dX15_reads_25 : decode cX15_reads 25 = .ok (.iadd, 1) := by decide +kernel
set_option maxRecDepth 20000 in
theorem dX15_reads_26 : decode cX15_reads 26 = .ok (.invokestatic 85, 3) := by decide +kernel
set_option maxRecDepth 20000 in
theorem dX15_reads_29 : decode cX15_reads 29 = .ok (.invokevirtual 141, 3) := by decide +kernel
set_option maxRecDepth 20000 in
theorem dX15_reads_32 : decode cX15_reads 32 = .ok (.istore 5, 2) := by decide +kernel
set_option maxRecDepth 20000 in
theorem dX15_reads_34 : decode cX15_reads 34 = .ok (.aload_n 2, 1) := by decide +kernel
set_option maxRecDepth 20000 in
theorem dX15_reads_35 : decode cX15_reads 35 = .ok (.iload 4, 2) := by decide +kernel
set_option maxRecDepth 20000 in
theorem dX15_reads_37 : decode cX15_reads 37 = .ok (.iconst 5, 1) := by decide +kernel
set_option maxRecDepth 20000 in
theorem dX15_reads_38 : decode cX15_reads 38 = .ok (.iadd, 1) := by decide +kernel
set_option maxRecDepth 20000 in
theorem dX15_reads_39 : decode cX15_reads 39 = .ok (.invokestatic 85, 3) := by decide +kernel
set_option maxRecDepth 20000 in
theorem dX15_reads_42 : decode cX15_reads 42 = .ok (.istore 6, 2) := by decide +kernel
set_option maxRecDepth 20000 in
theorem dX15_reads_44 : decode cX15_reads 44 = .ok (.aload_n 0, 1) := by decide +kernel
set_option maxRecDepth 20000 in
theorem dX15_reads_45 : decode cX15_reads 45 = .ok (.iconst 1, 1) := by decide +kernel
set_option maxRecDepth 20000 in
theorem dX15_reads_46 : decode cX15_reads 46 = .ok (.iconst 2, 1) := by decide +kernel
set_option maxRecDepth 20000 in
theorem dX15_reads_47 : decode cX15_reads 47 = .ok (.iload 6, 2) := by decide +kernel
set_option maxRecDepth 20000 in
theorem dX15_reads_49 : decode cX15_reads 49 = .ok (.imul, 1) := by decide +kernel
set_option maxRecDepth 20000 in
theorem dX15_reads_50 : decode cX15_reads 50 = .ok (.iadd, 1) := by decide +kernel
set_option maxRecDepth 20000 in
theorem dX15_reads_51 : decode cX15_reads 51 = .ok (.invokevirtual 92, 3) := by decide +kernel
set_option maxRecDepth 20000 in
theorem dX15_reads_54 : decode cX15_reads 54 = .ok (.aload_n 0, 1) := by decide +kernel
set_option maxRecDepth 20000 in
theorem dX15_reads_55 : decode cX15_reads 55 = .ok (.bipush 6, 2) := by decide +kernel
set_option maxRecDepth 20000 in
theorem dX15_reads_57 : decode cX15_reads 57 = .ok (.invokevirtual 92, 3) := by decide +kernel
set_option maxRecDepth 20000 in
theorem dX15_reads_60 : decode cX15_reads 60 = .ok (.iconst 0, 1) := by decide +kernel
set_option maxRecDepth 20000 in
theorem dX15_reads_61 : decode cX15_reads 61 = .ok (.istore 7, 2) := by decide +kernel
set_option maxRecDepth 20000 in
theorem dX15_reads_63 : decode cX15_reads 63 = .ok (.iload 7, 2) := by decide +kernel
set_option maxRecDepth 20000 in
theorem dX15_reads_65 : decode cX15_reads 65 = .ok (.iload 6, 2) := by decide +kernel
set_option maxRecDepth 20000 in
theorem dX15_reads_67 : decode cX15_reads 67 = .ok (.if_icmp .ge 32, 3) := by decide +kernel
set_option maxRecDepth 20000 in
theorem dX15_reads_70 : decode cX15_reads 70 = .ok (.aload_n 0, 1) := by decide +kernel
set_option maxRecDepth 20000 in
theorem dX15_reads_71 : decode cX15_reads 71 = .ok (.aload_n 1, 1) := by decide +kernel
set_option maxRecDepth 20000 in
theorem dX15_reads_72 : decode cX15_reads 72 = .ok (.getfield 218, 3) := by decide +kernel
set_option maxRecDepth 20000 in
theorem dX15_reads_75 : decode cX15_reads 75 = .ok (.iload 5, 2) := by decide +kernel
set_option maxRecDepth 20000 in
theorem dX15_reads_77 : decode cX15_reads 77 = .ok (.aaload, 1) := by decide +kernel
set_option maxRecDepth 20000 in
theorem dX15_reads_78 : decode cX15_reads 78 = .ok (.aload_n 2, 1) := by decide +kernel
set_option maxRecDepth 20000 in
theorem dX15_reads_79 : decode cX15_reads 79 = .ok (.iload 4, 2) := by decide +kernel
set_option maxRecDepth 20000 in
theorem dX15_reads_81 : decode cX15_reads 81 = .ok (.iconst 3, 1) := by decide +kernel
set_option maxRecDepth 20000 in
theorem dX15_reads_82 : decode cX15_reads 82 = .ok (.iadd, 1) := by decide +kernel
set_option maxRecDepth 20000 in
theorem dX15_reads_83 : decode cX15_reads 83 = .ok (.invokestatic 85, 3) := by decide +kernel
set_option maxRecDepth 20000 in
theorem dX15_reads_86 : decode cX15_reads 86 = .ok (.iload 7, 2) := by decide +kernel
set_option maxRecDepth 20000 in
theorem dX15_reads_88 : decode cX15_reads 88 = .ok (.iadd, 1) := by decide +kernel
set_option maxRecDepth 20000 in
theorem dX15_reads_89 : decode cX15_reads 89 = .ok (.iaload, 1) := by decide +kernel
set_option maxRecDepth 20000 in
theorem dX15_reads_90 : decode cX15_reads 90 = .ok (.invokevirtual 183, 3) := by decide +kernel
set_option maxRecDepth 20000 in
theorem dX15_reads_93 : decode cX15_reads 93 = .ok (.iinc 7 1, 3) := by decide +kernel
set_option maxRecDepth 20000 in
theorem dX15_reads_96 : decode cX15_reads 96 = .ok (.goto (-33), 3) := by decide +kernel
set_option maxRecDepth 20000 in
theorem dX15_reads_99 : decode cX15_reads 99 = .ok (.iinc 4 7, 3) := by decide +kernel
set_option maxRecDepth 20000 in
theorem dX15_reads_102 : decode cX15_reads 102 = .ok (.goto (-88), 3) := by decide +kernel
set_option maxRecDepth 20000 in
theorem dX15_reads_105 : decode cX15_reads 105 = .ok (.aload_n 0, 1) := by decide +kernel
set_option maxRecDepth 20000 in
theorem dX15_reads_106 : decode cX15_reads 106 = .ok (.getfield 15, 3) := by decide +kernel
set_option maxRecDepth 20000 in
theorem dX15_reads_109 : decode cX15_reads 109 = .ok (.iconst 1, 1) := by decide +kernel
set_option maxRecDepth 20000 in
theorem dX15_reads_110 : decode cX15_reads 110 = .ok (.aload_n 0, 1) := by decide +kernel
set_option maxRecDepth 20000 in
theorem dX15_reads_111 : decode cX15_reads 111 = .ok (.getfield 89, 3) := by decide +kernel
set_option maxRecDepth 20000 in
theorem dX15_reads_114 : decode cX15_reads 114 = .ok (.iconst 2, 1) := by decide +kernel
set_option maxRecDepth 20000 in
theorem dX15_reads_115 : decode cX15_reads 115 = .ok (.isub, 1) := by decide +kernel
set_option maxRecDepth 20000 in
theorem dX15_reads_116 : decode cX15_reads 116 = .ok (.iastore, 1) := by decide +kernel
set_option maxRecDepth 20000 in
theorem dX15_reads_117 : decode cX15_reads 117 = .ok (.return_, 1) := by decide +kernel
set_option maxRecDepth 20000 in
theorem dX15_writes_0 : decode cX15_writes 0 = .ok (.iconst 2, 1) := by decide +kernel
set_option maxRecDepth 20000 in
theorem dX15_writes_1 : decode cX15_writes 1 = .ok (.istore_n 3, 1) := by decide +kernel
set_option maxRecDepth 20000 in
theorem dX15_writes_2 : decode cX15_writes 2 = .ok (.iload_n 3, 1) := by decide +kernel
set_option maxRecDepth 20000 in
theorem dX15_writes_3 : decode cX15_writes 3 = .ok (.iload_n 2, 1) := by decide +kernel
set_option maxRecDepth 20000 in
theorem dX15_writes_4 : decode cX15_writes 4 = .ok (.if_icmp .ge 85, 3) := by decide +kernel
set_option maxRecDepth 20000 in
theorem dX15_writes_7 : decode cX15_writes 7 = .ok (.aload_n 0, 1) := by decide +kernel
set_option maxRecDepth 20000 in
theorem dX15_writes_8 : decode cX15_writes 8 = .ok (.aload_n 1, 1) := by decide +kernel
set_option maxRecDepth 20000 in
theorem dX15_writes_9 : decode cX15_writes 9 = .ok (.iload_n 3, 1) := by decide +kernel
set_option maxRecDepth 20000 in
theorem dX15_writes_10 : decode cX15_writes 10 = .ok (.iconst 1, 1) := by decide +kernel
set_option maxRecDepth 20000 in
theorem dX15_writes_11 : decode cX15_writes 11 = .ok (.iadd, 1) := by decide +kernel
set_option maxRecDepth 20000 in
theorem dX15_writes_12 : decode cX15_writes 12 = .ok (.invokestatic 85, 3) := by decide +kernel
set_option maxRecDepth 20000 in
theorem dX15_writes_15 : decode cX15_writes 15 = .ok (.invokevirtual 141, 3) := by decide +kernel
set_option maxRecDepth 20000 in
theorem dX15_writes_18 : decode cX15_writes 18 = .ok (.istore 4, 2) := by decide +kernel
set_option maxRecDepth 20000 in
theorem dX15_writes_20 : decode cX15_writes 20 = .ok (.aload_n 1, 1) := by decide +kernel
set_option maxRecDepth 20000 in
theorem dX15_writes_21 : decode cX15_writes 21 = .ok (.iload_n 3, 1) := by decide +kernel
set_option maxRecDepth 20000 in
theorem dX15_writes_22 : decode cX15_writes 22 = .ok (.iconst 5, 1) := by decide +kernel
set_option maxRecDepth 20000 in
theorem dX15_writes_23 : decode cX15_writes 23 = .ok (.iadd, 1) := by decide +kernel
set_option maxRecDepth 20000 in
theorem dX15_writes_24 : decode cX15_writes 24 = .ok (.invokestatic 85, 3) := by decide +kernel
set_option maxRecDepth 20000 in
theorem dX15_writes_27 : decode cX15_writes 27 = .ok (.istore 5, 2) := by decide +kernel
set_option maxRecDepth 20000 in
theorem dX15_writes_29 : decode cX15_writes 29 = .ok (.iconst 0, 1) := by decide +kernel
set_option maxRecDepth 20000 in
theorem dX15_writes_30 : decode cX15_writes 30 = .ok (.istore 6, 2) := by decide +kernel
set_option maxRecDepth 20000 in
theorem dX15_writes_32 : decode cX15_writes 32 = .ok (.iload 6, 2) := by decide +kernel
set_option maxRecDepth 20000 in
theorem dX15_writes_34 : decode cX15_writes 34 = .ok (.iload 5, 2) := by decide +kernel
set_option maxRecDepth 20000 in
theorem dX15_writes_36 : decode cX15_writes 36 = .ok (.if_icmp .ge 40, 3) := by decide +kernel
set_option maxRecDepth 20000 in
theorem dX15_writes_39 : decode cX15_writes 39 = .ok (.aload_n 0, 1) := by decide +kernel
set_option maxRecDepth 20000 in
theorem dX15_writes_40 : decode cX15_writes 40 = .ok (.getfield 218, 3) := by decide +kernel
set_option maxRecDepth 20000 in
theorem dX15_writes_43 : decode cX15_writes 43 = .ok (.iload 4, 2) := by decide +kernel
set_option maxRecDepth 20000 in
theorem dX15_writes_45 : decode cX15_writes 45 = .ok (.aaload, 1) := by decide +kernel
set_option maxRecDepth 20000 in
theorem dX15_writes_46 : decode cX15_writes 46 = .ok (.aload_n 1, 1) := by decide +kernel
set_option maxRecDepth 20000 in
theorem dX15_writes_47 : decode cX15_writes 47 = .ok (.iload_n 3, 1) := by decide +kernel
set_option maxRecDepth 20000 in
theorem dX15_writes_48 : decode cX15_writes 48 = .ok (.iconst 3, 1) := by decide +kernel
set_option maxRecDepth 20000 in
theorem dX15_writes_49 : decode cX15_writes 49 = .ok (.iadd, 1) := by decide +kernel
set_option maxRecDepth 20000 in
theorem dX15_writes_50 : decode cX15_writes 50 = .ok (.invokestatic 85, 3) := by decide +kernel
set_option maxRecDepth 20000 in
theorem dX15_writes_53 : decode cX15_writes 53 = .ok (.iload 6, 2) := by decide +kernel
set_option maxRecDepth 20000 in
theorem dX15_writes_55 : decode cX15_writes 55 = .ok (.iadd, 1) := by decide +kernel
set_option maxRecDepth 20000 in
theorem dX15_writes_56 : decode cX15_writes 56 = .ok (.aload_n 1, 1) := by decide +kernel
set_option maxRecDepth 20000 in
theorem dX15_writes_57 : decode cX15_writes 57 = .ok (.iload_n 3, 1) := by decide +kernel
set_option maxRecDepth 20000 in
theorem dX15_writes_58 : decode cX15_writes 58 = .ok (.bipush 7, 2) := by decide +kernel
set_option maxRecDepth 20000 in
theorem dX15_writes_60 : decode cX15_writes 60 = .ok (.iadd, 1) := by decide +kernel
set_option maxRecDepth 20000 in
theorem dX15_writes_61 : decode cX15_writes 61 = .ok (.iconst 2, 1) := by decide +kernel
set_option maxRecDepth 20000 in
theorem dX15_writes_62 : decode cX15_writes 62 = .ok (.iload 6, 2) := by decide +kernel
set_option maxRecDepth 20000 in
theorem dX15_writes_64 : decode cX15_writes 64 = .ok (.imul, 1) := by decide +kernel
set_option maxRecDepth 20000 in
theorem dX15_writes_65 : decode cX15_writes 65 = .ok (.iadd, 1) := by decide +kernel
set_option maxRecDepth 20000 in
theorem dX15_writes_66 : decode cX15_writes 66 = .ok (.invokestatic 85, 3) := by decide +kernel
set_option maxRecDepth 20000 in
theorem dX15_writes_69 : decode cX15_writes 69 = .ok (.iastore, 1) := by decide +kernel
set_option maxRecDepth 20000 in
theorem dX15_writes_70 : decode cX15_writes 70 = .ok (.iinc 6 1, 3) := by decide +kernel
set_option maxRecDepth 20000 in
theorem dX15_writes_73 : decode cX15_writes 73 = .ok (.goto (-41), 3) := by decide +kernel
set_option maxRecDepth 20000 in
theorem dX15_writes_76 : decode cX15_writes 76 = .ok (.iload_n 3, 1) := by decide +kernel
set_option maxRecDepth 20000 in
theorem dX15_writes_77 : decode cX15_writes 77 = .ok (.bipush 7, 2) := by decide +kernel
set_option maxRecDepth 20000 in
theorem dX15_writes_79 : decode cX15_writes 79 = .ok (.iconst 2, 1) := by decide +kernel
set_option maxRecDepth 20000 in
theorem dX15_writes_80 : decode cX15_writes 80 = .ok (.iload 5, 2) := by decide +kernel
set_option maxRecDepth 20000 in
theorem dX15_writes_82 : decode cX15_writes 82 = .ok (.imul, 1) := by decide +kernel
set_option maxRecDepth 20000 in
theorem dX15_writes_83 : decode cX15_writes 83 = .ok (.iadd, 1) := by decide +kernel
set_option maxRecDepth 20000 in
theorem dX15_writes_84 : decode cX15_writes 84 = .ok (.iadd, 1) := by decide +kernel
set_option maxRecDepth 20000 in
theorem dX15_writes_85 : decode cX15_writes 85 = .ok (.istore_n 3, 1) := by decide +kernel
set_option maxRecDepth 20000 in
theorem dX15_writes_86 : decode cX15_writes 86 = .ok (.goto (-84), 3) := by decide +kernel
set_option maxRecDepth 20000 in
theorem dX15_writes_89 : decode cX15_writes 89 = .ok (.return_, 1) := by decide +kernel
set_option maxRecDepth 20000 in
theorem dX15_names_0 : decode cX15_names 0 = .ok (.iload_n 2, 1) := by decide +kernel
set_option maxRecDepth 20000 in
theorem dX15_names_1 : decode cX15_names 1 = .ok (.iconst 1, 1) := by decide +kernel
set_option maxRecDepth 20000 in
theorem dX15_names_2 : decode cX15_names 2 = .ok (.if_icmp .ne 7, 3) := by decide +kernel
set_option maxRecDepth 20000 in
theorem dX15_names_5 : decode cX15_names 5 = .ok (.iconst 2, 1) := by decide +kernel
set_option maxRecDepth 20000 in
theorem dX15_names_6 : decode cX15_names 6 = .ok (.goto 16, 3) := by decide +kernel
set_option maxRecDepth 20000 in
theorem dX15_names_9 : decode cX15_names 9 = .ok (.iload_n 2, 1) := by decide +kernel
set_option maxRecDepth 20000 in
theorem dX15_names_10 : decode cX15_names 10 = .ok (.iconst 2, 1) := by decide +kernel
set_option maxRecDepth 20000 in
theorem dX15_names_11 : decode cX15_names 11 = .ok (.if_icmp .ne 8, 3) := by decide +kernel
set_option maxRecDepth 20000 in
theorem dX15_names_14 : decode cX15_names 14 = .ok (.bipush 6, 2) := by decide +kernel
set_option maxRecDepth 20000 in
theorem dX15_names_16 : decode cX15_names 16 = .ok (.goto 6, 3) := by decide +kernel
set_option maxRecDepth 20000 in
theorem dX15_names_19 : decode cX15_names 19 = .ok (.sipush 255, 3) := by decide +kernel
set_option maxRecDepth 20000 in
theorem dX15_names_22 : decode cX15_names 22 = .ok (.istore 4, 2) := by decide +kernel
set_option maxRecDepth 20000 in
theorem dX15_names_24 : decode cX15_names 24 = .ok (.sipush 129, 3) := by decide +kernel
set_option maxRecDepth 20000 in
theorem dX15_names_27 : decode cX15_names 27 = .ok (.istore 5, 2) := by decide +kernel
set_option maxRecDepth 20000 in
theorem dX15_names_29 : decode cX15_names 29 = .ok (.iconst 0, 1) := by decide +kernel
set_option maxRecDepth 20000 in
theorem dX15_names_30 : decode cX15_names 30 = .ok (.istore 6, 2) := by decide +kernel
set_option maxRecDepth 20000 in
theorem dX15_names_32 : decode cX15_names 32 = .ok (.iload 6, 2) := by decide +kernel
set_option maxRecDepth 20000 in
theorem dX15_names_34 : decode cX15_names 34 = .ok (.aload_n 1, 1) := by decide +kernel
set_option maxRecDepth 20000 in
theorem dX15_names_35 : decode cX15_names 35 = .ok (.getfield 221, 3) := by decide +kernel
set_option maxRecDepth 20000 in
theorem dX15_names_38 : decode cX15_names 38 = .ok (.if_icmp .ge 54, 3) := by decide +kernel
set_option maxRecDepth 20000 in
theorem dX15_names_41 : decode cX15_names 41 = .ok (.iload 5, 2) := by decide +kernel
set_option maxRecDepth 20000 in
theorem dX15_names_43 : decode cX15_names 43 = .ok (.aload_n 1, 1) := by decide +kernel
set_option maxRecDepth 20000 in
theorem dX15_names_44 : decode cX15_names 44 = .ok (.getfield 224, 3) := by decide +kernel
set_option maxRecDepth 20000 in
theorem dX15_names_47 : decode cX15_names 47 = .ok (.iload 6, 2) := by decide +kernel
set_option maxRecDepth 20000 in
theorem dX15_names_49 : decode cX15_names 49 = .ok (.iaload, 1) := by decide +kernel
set_option maxRecDepth 20000 in
theorem dX15_names_50 : decode cX15_names 50 = .ok (.bipush 6, 2) := by decide +kernel
set_option maxRecDepth 20000 in
theorem dX15_names_52 : decode cX15_names 52 = .ok (.if_icmp .le 9, 3) := by decide +kernel
set_option maxRecDepth 20000 in
theorem dX15_names_55 : decode cX15_names 55 = .ok (.sipush 131, 3) := by decide +kernel
set_option maxRecDepth 20000 in
theorem dX15_names_58 : decode cX15_names 58 = .ok (.goto 23, 3) := by decide +kernel
set_option maxRecDepth 20000 in
theorem dX15_names_61 : decode cX15_names 61 = .ok (.aload_n 1, 1) := by decide +kernel
set_option maxRecDepth 20000 in
theorem dX15_names_62 : decode cX15_names 62 = .ok (.getfield 224, 3) := by decide +kernel
set_option maxRecDepth 20000 in
theorem dX15_names_65 : decode cX15_names 65 = .ok (.iload 6, 2) := by decide +kernel
set_option maxRecDepth 20000 in
theorem dX15_names_67 : decode cX15_names 67 = .ok (.iaload, 1) := by decide +kernel
set_option maxRecDepth 20000 in
theorem dX15_names_68 : decode cX15_names 68 = .ok (.iconst 2, 1) := by decide +kernel
set_option maxRecDepth 20000 in
theorem dX15_names_69 : decode cX15_names 69 = .ok (.if_icmp .le 9, 3) := by decide +kernel
set_option maxRecDepth 20000 in
theorem dX15_names_72 : decode cX15_names 72 = .ok (.sipush 130, 3) := by decide +kernel
set_option maxRecDepth 20000 in
theorem dX15_names_75 : decode cX15_names 75 = .ok (.goto 6, 3) := by decide +kernel
set_option maxRecDepth 20000 in
theorem dX15_names_78 : decode cX15_names 78 = .ok (.sipush 129, 3) := by decide +kernel
set_option maxRecDepth 20000 in
theorem dX15_names_81 : decode cX15_names 81 = .ok (.invokestatic 227, 3) := by decide +kernel
set_option maxRecDepth 20000 in
theorem dX15_names_84 : decode cX15_names 84 = .ok (.istore 5, 2) := by decide +kernel
set_option maxRecDepth 20000 in
theorem dX15_names_86 : decode cX15_names 86 = .ok (.iinc 6 1, 3) := by decide +kernel
set_option maxRecDepth 20000 in
theorem dX15_names_89 : decode cX15_names 89 = .ok (.goto (-57), 3) := by decide +kernel
set_option maxRecDepth 20000 in
theorem dX15_names_92 : decode cX15_names 92 = .ok (.aload_n 0, 1) := by decide +kernel
set_option maxRecDepth 20000 in
theorem dX15_names_93 : decode cX15_names 93 = .ok (.bipush 43, 2) := by decide +kernel
set_option maxRecDepth 20000 in
theorem dX15_names_95 : decode cX15_names 95 = .ok (.invokevirtual 92, 3) := by decide +kernel
set_option maxRecDepth 20000 in
theorem dX15_names_98 : decode cX15_names 98 = .ok (.aload_n 0, 1) := by decide +kernel
set_option maxRecDepth 20000 in
theorem dX15_names_99 : decode cX15_names 99 = .ok (.bipush 14, 2) := by decide +kernel
set_option maxRecDepth 20000 in
theorem dX15_names_101 : decode cX15_names 101 = .ok (.invokevirtual 92, 3) := by decide +kernel
set_option maxRecDepth 20000 in
theorem dX15_names_104 : decode cX15_names 104 = .ok (.aload_n 0, 1) := by decide +kernel
set_option maxRecDepth 20000 in
theorem dX15_names_105 : decode cX15_names 105 = .ok (.iload_n 2, 1) := by decide +kernel
set_option maxRecDepth 20000 in
theorem dX15_names_106 : decode cX15_names 106 = .ok (.invokevirtual 92, 3) := by decide +kernel
set_option maxRecDepth 20000 in
theorem dX15_names_109 : decode cX15_names 109 = .ok (.aload_n 0, 1) := by decide +kernel
set_option maxRecDepth 20000 in
theorem dX15_names_110 : decode cX15_names 110 = .ok (.iload 5, 2) := by decide +kernel
set_option maxRecDepth 20000 in
theorem dX15_names_112 : decode cX15_names 112 = .ok (.invokevirtual 92, 3) := by decide +kernel
set_option maxRecDepth 20000 in
theorem dX15_names_115 : decode cX15_names 115 = .ok (.aload_n 0, 1) := by decide +kernel
set_option maxRecDepth 20000 in
theorem dX15_names_116 : decode cX15_names 116 = .ok (.iconst 0, 1) := by decide +kernel
set_option maxRecDepth 20000 in
theorem dX15_names_117 : decode cX15_names 117 = .ok (.invokevirtual 92, 3) := by decide +kernel
set_option maxRecDepth 20000 in
theorem dX15_names_120 : decode cX15_names 120 = .ok (.aload_n 0, 1) := by decide +kernel
set_option maxRecDepth 20000 in
theorem dX15_names_121 : decode cX15_names 121 = .ok (.iconst 0, 1) := by decide +kernel
set_option maxRecDepth 20000 in
theorem dX15_names_122 : decode cX15_names 122 = .ok (.invokevirtual 92, 3) := by decide +kernel
set_option maxRecDepth 20000 in
theorem dX15_names_125 : decode cX15_names 125 = .ok (.aload_n 0, 1) := by decide +kernel
set_option maxRecDepth 20000 in
theorem dX15_names_126 : decode cX15_names 126 = .ok (.iconst 0, 1) := by decide +kernel
set_option maxRecDepth 20000 in
theorem dX15_names_127 : decode cX15_names 127 = .ok (.invokevirtual 92, 3) := by decide +kernel
set_option maxRecDepth 20000 in
theorem dX15_names_130 : decode cX15_names 130 = .ok (.iconst 0, 1) := by decide +kernel
set_option maxRecDepth 20000 in
theorem dX15_names_131 : decode cX15_names 131 = .ok (.istore 6, 2) := by decide +kernel
set_option maxRecDepth 20000 in
theorem dX15_names_133 : decode cX15_names 133 = .ok (.aload_n 1, 1) := by decide +kernel
set_option maxRecDepth 20000 in
theorem dX15_names_134 : decode cX15_names 134 = .ok (.iload_n 3, 1) := by decide +kernel
set_option maxRecDepth 20000 in
theorem dX15_names_135 : decode cX15_names 135 = .ok (.invokevirtual 134, 3) := by decide +kernel
set_option maxRecDepth 20000 in
theorem dX15_names_138 : decode cX15_names 138 = .ok (.istore 7, 2) := by decide +kernel
set_option maxRecDepth 20000 in
theorem dX15_names_140 : decode cX15_names 140 = .ok (.iload_n 2, 1) := by decide +kernel
set_option maxRecDepth 20000 in
theorem dX15_names_141 : decode cX15_names 141 = .ok (.iconst 4, 1) := by decide +kernel
set_option maxRecDepth 20000 in
theorem dX15_names_142 : decode cX15_names 142 = .ok (.if_icmp .eq 15, 3) := by decide +kernel
set_option maxRecDepth 20000 in
theorem dX15_names_145 : decode cX15_names 145 = .ok (.iload 7, 2) := by decide +kernel
set_option maxRecDepth 20000 in
theorem dX15_names_147 : decode cX15_names 147 = .ok (.iconst (-1), 1) := by decide +kernel
set_option maxRecDepth 20000 in
theorem dX15_names_148 : decode cX15_names 148 = .ok (.if_icmp .eq 13, 3) := by decide +kernel
set_option maxRecDepth 20000 in
theorem dX15_names_151 : decode cX15_names 151 = .ok (.iload_n 3, 1) := by decide +kernel
set_option maxRecDepth 20000 in
theorem dX15_names_152 : decode cX15_names 152 = .ok (.iload 4, 2) := by decide +kernel
set_option maxRecDepth 20000 in
theorem dX15_names_154 : decode cX15_names 154 = .ok (.if_icmp .gt 7, 3) := by decide +kernel
set_option maxRecDepth 20000 in
theorem dX15_names_157 : decode cX15_names 157 = .ok (.iload 7, 2) := by decide +kernel
set_option maxRecDepth 20000 in
theorem dX15_names_159 : decode cX15_names 159 = .ok (.istore 6, 2) := by decide +kernel
set_option maxRecDepth 20000 in
theorem dX15_names_161 : decode cX15_names 161 = .ok (.iload 6, 2) := by decide +kernel
set_option maxRecDepth 20000 in
theorem dX15_names_163 : decode cX15_names 163 = .ok (.istore 8, 2) := by decide +kernel
set_option maxRecDepth 20000 in
theorem dX15_names_165 : decode cX15_names 165 = .ok (.iload_n 2, 1) := by decide +kernel
set_option maxRecDepth 20000 in
theorem dX15_names_166 : decode cX15_names 166 = .ok (.iconst 4, 1) := by decide +kernel
set_option maxRecDepth 20000 in
theorem dX15_names_167 : decode cX15_names 167 = .ok (.if_icmp .ne 10, 3) := by decide +kernel
set_option maxRecDepth 20000 in
theorem dX15_names_170 : decode cX15_names 170 = .ok (.iload 6, 2) := by decide +kernel
set_option maxRecDepth 20000 in
theorem dX15_names_172 : decode cX15_names 172 = .ok (.iconst 1, 1) := by decide +kernel
set_option maxRecDepth 20000 in
theorem dX15_names_173 : decode cX15_names 173 = .ok (.iadd, 1) := by decide +kernel
set_option maxRecDepth 20000 in
theorem dX15_names_174 : decode cX15_names 174 = .ok (.goto 7, 3) := by decide +kernel
set_option maxRecDepth 20000 in
theorem dX15_names_177 : decode cX15_names 177 = .ok (.aload_n 1, 1) := by decide +kernel
set_option maxRecDepth 20000 in
theorem dX15_names_178 : decode cX15_names 178 = .ok (.getfield 221, 3) := by decide +kernel
set_option maxRecDepth 20000 in
theorem dX15_names_181 : decode cX15_names 181 = .ok (.istore 9, 2) := by decide +kernel
set_option maxRecDepth 20000 in
theorem dX15_names_183 : decode cX15_names 183 = .ok (.iload 8, 2) := by decide +kernel
set_option maxRecDepth 20000 in
theorem dX15_names_185 : decode cX15_names 185 = .ok (.iload 9, 2) := by decide +kernel
set_option maxRecDepth 20000 in
theorem dX15_names_187 : decode cX15_names 187 = .ok (.if_icmp .ge 109, 3) := by decide +kernel
set_option maxRecDepth 20000 in
theorem dX15_names_190 : decode cX15_names 190 = .ok (.aload_n 1, 1) := by decide +kernel
set_option maxRecDepth 20000 in
theorem dX15_names_191 : decode cX15_names 191 = .ok (.getfield 224, 3) := by decide +kernel
set_option maxRecDepth 20000 in
theorem dX15_names_194 : decode cX15_names 194 = .ok (.iload 8, 2) := by decide +kernel
set_option maxRecDepth 20000 in
theorem dX15_names_196 : decode cX15_names 196 = .ok (.iaload, 1) := by decide +kernel
set_option maxRecDepth 20000 in
theorem dX15_names_197 : decode cX15_names 197 = .ok (.iload_n 2, 1) := by decide +kernel
set_option maxRecDepth 20000 in
theorem dX15_names_198 : decode cX15_names 198 = .ok (.iconst 4, 1) := by decide +kernel
set_option maxRecDepth 20000 in
theorem dX15_names_199 : decode cX15_names 199 = .ok (.if_icmp .ne 9, 3) := by decide +kernel
set_option maxRecDepth 20000 in
theorem dX15_names_202 : decode cX15_names 202 = .ok (.sipush 255, 3) := by decide +kernel
set_option maxRecDepth 20000 in
theorem dX15_names_205 : decode cX15_names 205 = .ok (.goto 5, 3) := by decide +kernel
set_option maxRecDepth 20000 in
theorem dX15_names_208 : decode cX15_names 208 = .ok (.iload 4, 2) := by decide +kernel
set_option maxRecDepth 20000 in
theorem dX15_names_210 : decode cX15_names 210 = .ok (.if_icmp .gt 86, 3) := by decide +kernel
set_option maxRecDepth 20000 in
theorem dX15_names_213 : decode cX15_names 213 = .ok (.aload_n 0, 1) := by decide +kernel
set_option maxRecDepth 20000 in
theorem dX15_names_214 : decode cX15_names 214 = .ok (.getfield 89, 3) := by decide +kernel
set_option maxRecDepth 20000 in
theorem dX15_names_217 : decode cX15_names 217 = .ok (.iconst 2, 1) := by decide +kernel
set_option maxRecDepth 20000 in
theorem dX15_names_218 : decode cX15_names 218 = .ok (.iadd, 1) := by decide +kernel
set_option maxRecDepth 20000 in
theorem dX15_names_219 : decode cX15_names 219 = .ok (.aload_n 1, 1) := by decide +kernel
set_option maxRecDepth 20000 in
theorem dX15_names_220 : decode cX15_names 220 = .ok (.getfield 232, 3) := by decide +kernel
set_option maxRecDepth 20000 in
theorem dX15_names_223 : decode cX15_names 223 = .ok (.iload 8, 2) := by decide +kernel
set_option maxRecDepth 20000 in
theorem dX15_names_225 : decode cX15_names 225 = .ok (.iaload, 1) := by decide +kernel
set_option maxRecDepth 20000 in
theorem dX15_names_226 : decode cX15_names 226 = .ok (.iadd, 1) := by decide +kernel
set_option maxRecDepth 20000 in
theorem dX15_names_227 : decode cX15_names 227 = .ok (.sipush 253, 3) := by decide +kernel
set_option maxRecDepth 20000 in
theorem dX15_names_230 : decode cX15_names 230 = .ok (.if_icmp .gt 66, 3) := by decide +kernel
set_option maxRecDepth 20000 in
theorem dX15_names_233 : decode cX15_names 233 = .ok (.aload_n 0, 1) := by decide +kernel
set_option maxRecDepth 20000 in
theorem dX15_names_234 : decode cX15_names 234 = .ok (.aload_n 1, 1) := by decide +kernel
set_option maxRecDepth 20000 in
theorem dX15_names_235 : decode cX15_names 235 = .ok (.getfield 224, 3) := by decide +kernel
set_option maxRecDepth 20000 in
theorem dX15_names_238 : decode cX15_names 238 = .ok (.iload 8, 2) := by decide +kernel
set_option maxRecDepth 20000 in
theorem dX15_names_240 : decode cX15_names 240 = .ok (.iaload, 1) := by decide +kernel
set_option maxRecDepth 20000 in
theorem dX15_names_241 : decode cX15_names 241 = .ok (.invokevirtual 92, 3) := by decide +kernel
set_option maxRecDepth 20000 in
theorem dX15_names_244 : decode cX15_names 244 = .ok (.aload_n 0, 1) := by decide +kernel
set_option maxRecDepth 20000 in
theorem dX15_names_245 : decode cX15_names 245 = .ok (.aload_n 1, 1) := by decide +kernel
set_option maxRecDepth 20000 in
theorem dX15_names_246 : decode cX15_names 246 = .ok (.getfield 232, 3) := by decide +kernel
set_option maxRecDepth 20000 in
theorem dX15_names_249 : decode cX15_names 249 = .ok (.iload 8, 2) := by decide +kernel
set_option maxRecDepth 20000 in
theorem dX15_names_251 : decode cX15_names 251 = .ok (.iaload, 1) := by decide +kernel
set_option maxRecDepth 20000 in
theorem dX15_names_252 : decode cX15_names 252 = .ok (.invokevirtual 92, 3) := by decide +kernel
set_option maxRecDepth 20000 in
theorem dX15_names_255 : decode cX15_names 255 = .ok (.iconst 0, 1) := by decide +kernel
set_option maxRecDepth 20000 in
theorem dX15_names_256 : decode cX15_names 256 = .ok (.istore 10, 2) := by decide +kernel
set_option maxRecDepth 20000 in
theorem dX15_names_258 : decode cX15_names 258 = .ok (.iload 10, 2) := by decide +kernel
set_option maxRecDepth 20000 in
theorem dX15_names_260 : decode cX15_names 260 = .ok (.aload_n 1, 1) := by decide +kernel
set_option maxRecDepth 20000 in
theorem dX15_names_261 : decode cX15_names 261 = .ok (.getfield 232, 3) := by decide +kernel
set_option maxRecDepth 20000 in
theorem dX15_names_264 : decode cX15_names 264 = .ok (.iload 8, 2) := by decide +kernel
set_option maxRecDepth 20000 in
theorem dX15_names_266 : decode cX15_names 266 = .ok (.iaload, 1) := by decide +kernel
set_option maxRecDepth 20000 in
theorem dX15_names_267 : decode cX15_names 267 = .ok (.if_icmp .ge 23, 3) := by decide +kernel
set_option maxRecDepth 20000 in
theorem dX15_names_270 : decode cX15_names 270 = .ok (.aload_n 0, 1) := by decide +kernel
set_option maxRecDepth 20000 in
theorem dX15_names_271 : decode cX15_names 271 = .ok (.aload_n 1, 1) := by decide +kernel
set_option maxRecDepth 20000 in
theorem dX15_names_272 : decode cX15_names 272 = .ok (.getfield 235, 3) := by decide +kernel
set_option maxRecDepth 20000 in
theorem dX15_names_275 : decode cX15_names 275 = .ok (.iload 8, 2) := by decide +kernel
set_option maxRecDepth 20000 in
theorem dX15_names_277 : decode cX15_names 277 = .ok (.aaload, 1) := by decide +kernel
set_option maxRecDepth 20000 in
theorem dX15_names_278 : decode cX15_names 278 = .ok (.iload 10, 2) := by decide +kernel
set_option maxRecDepth 20000 in
theorem dX15_names_280 : decode cX15_names 280 = .ok (.iaload, 1) := by decide +kernel
set_option maxRecDepth 20000 in
theorem dX15_names_281 : decode cX15_names 281 = .ok (.invokevirtual 92, 3) := by decide +kernel
set_option maxRecDepth 20000 in
theorem dX15_names_284 : decode cX15_names 284 = .ok (.iinc 10 1, 3) := by decide +kernel
set_option maxRecDepth 20000 in
theorem dX15_names_287 : decode cX15_names 287 = .ok (.goto (-29), 3) := by decide +kernel
set_option maxRecDepth 20000 in
theorem dX15_names_290 : decode cX15_names 290 = .ok (.iinc 8 1, 3) := by decide +kernel
set_option maxRecDepth 20000 in
theorem dX15_names_293 : decode cX15_names 293 = .ok (.goto (-110), 3) := by decide +kernel
set_option maxRecDepth 20000 in
theorem dX15_names_296 : decode cX15_names 296 = .ok (.aload_n 0, 1) := by decide +kernel
set_option maxRecDepth 20000 in
theorem dX15_names_297 : decode cX15_names 297 = .ok (.getfield 15, 3) := by decide +kernel
set_option maxRecDepth 20000 in
theorem dX15_names_300 : decode cX15_names 300 = .ok (.bipush 6, 2) := by decide +kernel
set_option maxRecDepth 20000 in
theorem dX15_names_302 : decode cX15_names 302 = .ok (.iload 8, 2) := by decide +kernel
set_option maxRecDepth 20000 in
theorem dX15_names_304 : decode cX15_names 304 = .ok (.iload 6, 2) := by decide +kernel
set_option maxRecDepth 20000 in
theorem dX15_names_306 : decode cX15_names 306 = .ok (.isub, 1) := by decide +kernel
set_option maxRecDepth 20000 in
theorem dX15_names_307 : decode cX15_names 307 = .ok (.iastore, 1) := by decide +kernel
set_option maxRecDepth 20000 in
theorem dX15_names_308 : decode cX15_names 308 = .ok (.iload 8, 2) := by decide +kernel
set_option maxRecDepth 20000 in
theorem dX15_names_310 : decode cX15_names 310 = .ok (.iload 9, 2) := by decide +kernel
set_option maxRecDepth 20000 in
theorem dX15_names_312 : decode cX15_names 312 = .ok (.if_icmp .ge 42, 3) := by decide +kernel
set_option maxRecDepth 20000 in
theorem dX15_names_315 : decode cX15_names 315 = .ok (.aload_n 1, 1) := by decide +kernel
set_option maxRecDepth 20000 in
theorem dX15_names_316 : decode cX15_names 316 = .ok (.getfield 224, 3) := by decide +kernel
set_option maxRecDepth 20000 in
theorem dX15_names_319 : decode cX15_names 319 = .ok (.iload 8, 2) := by decide +kernel
set_option maxRecDepth 20000 in
theorem dX15_names_321 : decode cX15_names 321 = .ok (.iaload, 1) := by decide +kernel
set_option maxRecDepth 20000 in
theorem dX15_names_322 : decode cX15_names 322 = .ok (.iload 4, 2) := by decide +kernel
set_option maxRecDepth 20000 in
theorem dX15_names_324 : decode cX15_names 324 = .ok (.if_icmp .gt 30, 3) := by decide +kernel
set_option maxRecDepth 20000 in
theorem dX15_names_327 : decode cX15_names 327 = .ok (.iload_n 2, 1) := by decide +kernel
set_option maxRecDepth 20000 in
theorem dX15_names_328 : decode cX15_names 328 = .ok (.iconst 4, 1) := by decide +kernel
set_option maxRecDepth 20000 in
theorem dX15_names_329 : decode cX15_names 329 = .ok (.if_icmp .eq 25, 3) := by decide +kernel
set_option maxRecDepth 20000 in
theorem dX15_names_332 : decode cX15_names 332 = .ok (.aload_n 0, 1) := by decide +kernel
set_option maxRecDepth 20000 in
theorem dX15_names_333 : decode cX15_names 333 = .ok (.getfield 15, 3) := by decide +kernel
set_option maxRecDepth 20000 in
theorem dX15_names_336 : decode cX15_names 336 = .ok (.iconst 4, 1) := by decide +kernel
set_option maxRecDepth 20000 in
theorem dX15_names_337 : decode cX15_names 337 = .ok (.sipush 255, 3) := by decide +kernel
set_option maxRecDepth 20000 in
theorem dX15_names_340 : decode cX15_names 340 = .ok (.iastore, 1) := by decide +kernel
set_option maxRecDepth 20000 in
theorem dX15_names_341 : decode cX15_names 341 = .ok (.aload_n 0, 1) := by decide +kernel
set_option maxRecDepth 20000 in
theorem dX15_names_342 : decode cX15_names 342 = .ok (.getfield 15, 3) := by decide +kernel
set_option maxRecDepth 20000 in
theorem dX15_names_345 : decode cX15_names 345 = .ok (.iconst 5, 1) := by decide +kernel
set_option maxRecDepth 20000 in
theorem dX15_names_346 : decode cX15_names 346 = .ok (.aload_n 1, 1) := by decide +kernel
set_option maxRecDepth 20000 in
theorem dX15_names_347 : decode cX15_names 347 = .ok (.getfield 224, 3) := by decide +kernel
set_option maxRecDepth 20000 in
theorem dX15_names_350 : decode cX15_names 350 = .ok (.iload 8, 2) := by decide +kernel
set_option maxRecDepth 20000 in
theorem dX15_names_352 : decode cX15_names 352 = .ok (.iaload, 1) := by decide +kernel
set_option maxRecDepth 20000 in
theorem dX15_names_353 : decode cX15_names 353 = .ok (.iastore, 1) := by decide +kernel
set_option maxRecDepth 20000 in
theorem dX15_names_354 : decode cX15_names 354 = .ok (.return_, 1) := by decide +kernel
set_option maxRecDepth 20000 in
theorem dX15_looks_0 : decode cX15_looks 0 = .ok (.aload_n 1, 1) := by decide +kernel
set_option maxRecDepth 20000 in
theorem dX15_looks_1 : decode cX15_looks 1 = .ok (.invokevirtual 238, 3) := by decide +kernel
set_option maxRecDepth 20000 in
theorem dX15_looks_4 : decode cX15_looks 4 = .ok (.ifCond .ne 57, 3) := by decide +kernel
set_option maxRecDepth 20000 in
theorem dX15_looks_7 : decode cX15_looks 7 = .ok (.aload_n 1, 1) := by decide +kernel
set_option maxRecDepth 20000 in
theorem dX15_looks_8 : decode cX15_looks 8 = .ok (.iconst 1, 1) := by decide +kernel
set_option maxRecDepth 20000 in
theorem dX15_looks_9 : decode cX15_looks 9 = .ok (.invokevirtual 150, 3) := by decide +kernel
set_option maxRecDepth 20000 in
theorem dX15_looks_12 : decode cX15_looks 12 = .ok (.aload_n 1, 1) := by decide +kernel
set_option maxRecDepth 20000 in
theorem dX15_looks_13 : decode cX15_looks 13 = .ok (.getfield 242, 3) := by decide +kernel
set_option maxRecDepth 20000 in
theorem dX15_looks_16 : decode cX15_looks 16 = .ok (.ifCond .eq 9, 3) := by decide +kernel
set_option maxRecDepth 20000 in
theorem dX15_looks_19 : decode cX15_looks 19 = .ok (.aload_n 1, 1) := by decide +kernel
set_option maxRecDepth 20000 in
theorem dX15_looks_20 : decode cX15_looks 20 = .ok (.bipush 7, 2) := by decide +kernel
set_option maxRecDepth 20000 in
theorem dX15_looks_22 : decode cX15_looks 22 = .ok (.invokevirtual 150, 3) := by decide +kernel
set_option maxRecDepth 20000 in
theorem dX15_looks_25 : decode cX15_looks 25 = .ok (.aload_n 1, 1) := by decide +kernel
set_option maxRecDepth 20000 in
theorem dX15_looks_26 : decode cX15_looks 26 = .ok (.sipush 130, 3) := by decide +kernel
set_option maxRecDepth 20000 in
theorem dX15_looks_29 : decode cX15_looks 29 = .ok (.aload_n 1, 1) := by decide +kernel
set_option maxRecDepth 20000 in
theorem dX15_looks_30 : decode cX15_looks 30 = .ok (.getfield 242, 3) := by decide +kernel
set_option maxRecDepth 20000 in
theorem dX15_looks_33 : decode cX15_looks 33 = .ok (.ifCond .eq 8, 3) := by decide +kernel
set_option maxRecDepth 20000 in
theorem dX15_looks_36 : decode cX15_looks 36 = .ok (.bipush 16, 2) := by decide +kernel
set_option maxRecDepth 20000 in
theorem dX15_looks_38 : decode cX15_looks 38 = .ok (.goto 4, 3) := by decide +kernel
set_option maxRecDepth 20000 in
theorem dX15_looks_41 : decode cX15_looks 41 = .ok (.iconst 0, 1) := by decide +kernel
set_option maxRecDepth 20000 in
theorem dX15_looks_42 : decode cX15_looks 42 = .ok (.iadd, 1) := by decide +kernel
set_option maxRecDepth 20000 in
theorem dX15_looks_43 : decode cX15_looks 43 = .ok (.aload_n 1, 1) := by decide +kernel
set_option maxRecDepth 20000 in
theorem dX15_looks_44 : decode cX15_looks 44 = .ok (.getfield 211, 3) := by decide +kernel
set_option maxRecDepth 20000 in
theorem dX15_looks_47 : decode cX15_looks 47 = .ok (.ifCond .eq 8, 3) := by decide +kernel
set_option maxRecDepth 20000 in
theorem dX15_looks_50 : decode cX15_looks 50 = .ok (.bipush 32, 2) := by decide +kernel
set_option maxRecDepth 20000 in
theorem dX15_looks_52 : decode cX15_looks 52 = .ok (.goto 4, 3) := by decide +kernel
set_option maxRecDepth 20000 in
theorem dX15_looks_55 : decode cX15_looks 55 = .ok (.iconst 0, 1) := by decide +kernel
set_option maxRecDepth 20000 in
theorem dX15_looks_56 : decode cX15_looks 56 = .ok (.iadd, 1) := by decide +kernel
set_option maxRecDepth 20000 in
theorem dX15_looks_57 : decode cX15_looks 57 = .ok (.invokevirtual 215, 3) := by decide +kernel
set_option maxRecDepth 20000 in
theorem dX15_looks_60 : decode cX15_looks 60 = .ok (.return_, 1) := by decide +kernel
set_option maxRecDepth 20000 in
theorem dX15_looks_61 : decode cX15_looks 61 = .ok (.aload_n 1, 1) := by decide +kernel
set_option maxRecDepth 20000 in
theorem dX15_looks_62 : decode cX15_looks 62 = .ok (.iconst 0, 1) := by decide +kernel
set_option maxRecDepth 20000 in
theorem dX15_looks_63 : decode cX15_looks 63 = .ok (.invokevirtual 150, 3) := by decide +kernel
set_option maxRecDepth 20000 in
theorem dX15_looks_66 : decode cX15_looks 66 = .ok (.aload_n 1, 1) := by decide +kernel
set_option maxRecDepth 20000 in
theorem dX15_looks_67 : decode cX15_looks 67 = .ok (.getfield 245, 3) := by decide +kernel
set_option maxRecDepth 20000 in
theorem dX15_looks_70 : decode cX15_looks 70 = .ok (.iconst 0, 1) := by decide +kernel
set_option maxRecDepth 20000 in
theorem dX15_looks_71 : decode cX15_looks 71 = .ok (.iaload, 1) := by decide +kernel
set_option maxRecDepth 20000 in
theorem dX15_looks_72 : decode cX15_looks 72 = .ok (.istore_n 2, 1) := by decide +kernel
set_option maxRecDepth 20000 in
theorem dX15_looks_73 : decode cX15_looks 73 = .ok (.iload_n 2, 1) := by decide +kernel
set_option maxRecDepth 20000 in
theorem dX15_looks_74 : decode cX15_looks 74 = .ok (.aload_n 1, 1) := by decide +kernel
set_option maxRecDepth 20000 in
theorem dX15_looks_75 : decode cX15_looks 75 = .ok (.getfield 248, 3) := by decide +kernel
set_option maxRecDepth 20000 in
theorem dX15_looks_78 : decode cX15_looks 78 = .ok (.if_icmp .eq 8, 3) := by decide +kernel
set_option maxRecDepth 20000 in
theorem dX15_looks_81 : decode cX15_looks 81 = .ok (.iload_n 2, 1) := by decide +kernel
set_option maxRecDepth 20000 in
theorem dX15_looks_82 : decode cX15_looks 82 = .ok (.ifCond .eq 4, 3) := by decide +kernel
set_option maxRecDepth 20000 in
theorem dX15_looks_85 : decode cX15_looks 85 = .ok (.return_, 1) := by decide +kernel
set_option maxRecDepth 20000 in
theorem dX15_looks_86 : decode cX15_looks 86 = .ok (.aload_n 1, 1) := by decide +kernel
set_option maxRecDepth 20000 in
theorem dX15_looks_87 : decode cX15_looks 87 = .ok (.iconst 3, 1) := by decide +kernel
set_option maxRecDepth 20000 in
theorem dX15_looks_88 : decode cX15_looks 88 = .ok (.invokevirtual 150, 3) := by decide +kernel
set_option maxRecDepth 20000 in
theorem dX15_looks_91 : decode cX15_looks 91 = .ok (.aload_n 1, 1) := by decide +kernel
set_option maxRecDepth 20000 in
theorem dX15_looks_92 : decode cX15_looks 92 = .ok (.sipush 128, 3) := by decide +kernel
set_option maxRecDepth 20000 in
theorem dX15_looks_95 : decode cX15_looks 95 = .ok (.aload_n 1, 1) := by decide +kernel
set_option maxRecDepth 20000 in
theorem dX15_looks_96 : decode cX15_looks 96 = .ok (.getfield 211, 3) := by decide +kernel
set_option maxRecDepth 20000 in
theorem dX15_looks_99 : decode cX15_looks 99 = .ok (.ifCond .eq 8, 3) := by decide +kernel
set_option maxRecDepth 20000 in
theorem dX15_looks_102 : decode cX15_looks 102 = .ok (.bipush 32, 2) := by decide +kernel
set_option maxRecDepth 20000 in
theorem dX15_looks_104 : decode cX15_looks 104 = .ok (.goto 4, 3) := by decide +kernel
set_option maxRecDepth 20000 in
theorem dX15_looks_107 : decode cX15_looks 107 = .ok (.iconst 0, 1) := by decide +kernel
set_option maxRecDepth 20000 in
theorem dX15_looks_108 : decode cX15_looks 108 = .ok (.iadd, 1) := by decide +kernel
set_option maxRecDepth 20000 in
theorem dX15_looks_109 : decode cX15_looks 109 = .ok (.iload_n 2, 1) := by decide +kernel
set_option maxRecDepth 20000 in
theorem dX15_looks_110 : decode cX15_looks 110 = .ok (.ifCond .ne 8, 3) := by decide +kernel
set_option maxRecDepth 20000 in
theorem dX15_looks_113 : decode cX15_looks 113 = .ok (.bipush 64, 2) := by decide +kernel
set_option maxRecDepth 20000 in
theorem dX15_looks_115 : decode cX15_looks 115 = .ok (.goto 4, 3) := by decide +kernel
set_option maxRecDepth 20000 in
theorem dX15_looks_118 : decode cX15_looks 118 = .ok (.iconst 0, 1) := by decide +kernel
set_option maxRecDepth 20000 in
theorem dX15_looks_119 : decode cX15_looks 119 = .ok (.iadd, 1) := by decide +kernel
set_option maxRecDepth 20000 in
theorem dX15_looks_120 : decode cX15_looks 120 = .ok (.invokevirtual 215, 3) := by decide +kernel
set_option maxRecDepth 20000 in
theorem dX15_looks_123 : decode cX15_looks 123 = .ok (.aload_n 1, 1) := by decide +kernel
set_option maxRecDepth 20000 in
theorem dX15_looks_124 : decode cX15_looks 124 = .ok (.getfield 251, 3) := by decide +kernel
set_option maxRecDepth 20000 in
theorem dX15_looks_127 : decode cX15_looks 127 = .ok (.iconst 3, 1) := by decide +kernel
set_option maxRecDepth 20000 in
theorem dX15_looks_128 : decode cX15_looks 128 = .ok (.isub, 1) := by decide +kernel
set_option maxRecDepth 20000 in
theorem dX15_looks_129 : decode cX15_looks 129 = .ok (.istore_n 3, 1) := by decide +kernel
set_option maxRecDepth 20000 in
theorem dX15_looks_130 : decode cX15_looks 130 = .ok (.iconst 0, 1) := by decide +kernel
set_option maxRecDepth 20000 in
theorem dX15_looks_131 : decode cX15_looks 131 = .ok (.istore 4, 2) := by decide +kernel
set_option maxRecDepth 20000 in
theorem dX15_looks_133 : decode cX15_looks 133 = .ok (.iload 4, 2) := by decide +kernel
set_option maxRecDepth 20000 in
theorem dX15_looks_135 : decode cX15_looks 135 = .ok (.iload_n 3, 1) := by decide +kernel
set_option maxRecDepth 20000 in
theorem dX15_looks_136 : decode cX15_looks 136 = .ok (.if_icmp .ge 25, 3) := by decide +kernel
set_option maxRecDepth 20000 in
theorem dX15_looks_139 : decode cX15_looks 139 = .ok (.aload_n 0, 1) := by decide +kernel
set_option maxRecDepth 20000 in
theorem dX15_looks_140 : decode cX15_looks 140 = .ok (.getfield 19, 3) := by decide +kernel
set_option maxRecDepth 20000 in
theorem dX15_looks_143 : decode cX15_looks 143 = .ok (.iload 4, 2) := by decide +kernel
set_option maxRecDepth 20000 in
theorem dX15_looks_145 : decode cX15_looks 145 = .ok (.aload_n 1, 1) := by decide +kernel
set_option maxRecDepth 20000 in
theorem dX15_looks_146 : decode cX15_looks 146 = .ok (.getfield 245, 3) := by decide +kernel
set_option maxRecDepth 20000 in
theorem dX15_looks_149 : decode cX15_looks 149 = .ok (.iconst 1, 1) := by decide +kernel
set_option maxRecDepth 20000 in
theorem dX15_looks_150 : decode cX15_looks 150 = .ok (.iload 4, 2) := by decide +kernel
set_option maxRecDepth 20000 in
theorem dX15_looks_152 : decode cX15_looks 152 = .ok (.iadd, 1) := by decide +kernel
set_option maxRecDepth 20000 in
theorem dX15_looks_153 : decode cX15_looks 153 = .ok (.iaload, 1) := by decide +kernel
set_option maxRecDepth 20000 in
theorem dX15_looks_154 : decode cX15_looks 154 = .ok (.iastore, 1) := by decide +kernel
set_option maxRecDepth 20000 in
theorem dX15_looks_155 : decode cX15_looks 155 = .ok (.iinc 4 1, 3) := by decide +kernel
set_option maxRecDepth 20000 in
theorem dX15_looks_158 : decode cX15_looks 158 = .ok (.goto (-25), 3) := by decide +kernel
set_option maxRecDepth 20000 in
theorem dX15_looks_161 : decode cX15_looks 161 = .ok (.aload_n 0, 1) := by decide +kernel
set_option maxRecDepth 20000 in
theorem dX15_looks_162 : decode cX15_looks 162 = .ok (.getfield 19, 3) := by decide +kernel
set_option maxRecDepth 20000 in
theorem dX15_looks_165 : decode cX15_looks 165 = .ok (.iconst 0, 1) := by decide +kernel
set_option maxRecDepth 20000 in
theorem dX15_looks_166 : decode cX15_looks 166 = .ok (.iaload, 1) := by decide +kernel
set_option maxRecDepth 20000 in
theorem dX15_looks_167 : decode cX15_looks 167 = .ok (.istore 4, 2) := by decide +kernel
set_option maxRecDepth 20000 in
theorem dX15_looks_169 : decode cX15_looks 169 = .ok (.iconst 0, 1) := by decide +kernel
set_option maxRecDepth 20000 in
theorem dX15_looks_170 : decode cX15_looks 170 = .ok (.istore 5, 2) := by decide +kernel
set_option maxRecDepth 20000 in
theorem dX15_looks_172 : decode cX15_looks 172 = .ok (.aload_n 1, 1) := by decide +kernel
set_option maxRecDepth 20000 in
theorem dX15_looks_173 : decode cX15_looks 173 = .ok (.getfield 211, 3) := by decide +kernel
set_option maxRecDepth 20000 in
theorem dX15_looks_176 : decode cX15_looks 176 = .ok (.ifCond .eq 74, 3) := by decide +kernel
set_option maxRecDepth 20000 in
theorem dX15_looks_179 : decode cX15_looks 179 = .ok (.iload_n 2, 1) := by decide +kernel
set_option maxRecDepth 20000 in
theorem dX15_looks_180 : decode cX15_looks 180 = .ok (.ifCond .eq 42, 3) := by decide +kernel
set_option maxRecDepth 20000 in
theorem dX15_looks_183 : decode cX15_looks 183 = .ok (.iload 4, 2) := by decide +kernel
set_option maxRecDepth 20000 in
theorem dX15_looks_185 : decode cX15_looks 185 = .ok (.bipush 8, 2) := by decide +kernel
set_option maxRecDepth 20000 in
theorem dX15_looks_187 : decode cX15_looks 187 = .ok (.if_icmp .ne 35, 3) := by decide +kernel
set_option maxRecDepth 20000 in
theorem dX15_looks_190 : decode cX15_looks 190 = .ok (.iload_n 3, 1) := by decide +kernel
set_option maxRecDepth 20000 in
theorem dX15_looks_191 : decode cX15_looks 191 = .ok (.iconst 5, 1) := by decide +kernel
set_option maxRecDepth 20000 in
theorem dX15_looks_192 : decode cX15_looks 192 = .ok (.if_icmp .ne 30, 3) := by decide +kernel
set_option maxRecDepth 20000 in
theorem dX15_looks_195 : decode cX15_looks 195 = .ok (.aload_n 0, 1) := by decide +kernel
set_option maxRecDepth 20000 in
theorem dX15_looks_196 : decode cX15_looks 196 = .ok (.getfield 19, 3) := by decide +kernel
set_option maxRecDepth 20000 in
theorem dX15_looks_199 : decode cX15_looks 199 = .ok (.iconst 1, 1) := by decide +kernel
set_option maxRecDepth 20000 in
theorem dX15_looks_200 : decode cX15_looks 200 = .ok (.invokestatic 85, 3) := by decide +kernel
set_option maxRecDepth 20000 in
theorem dX15_looks_203 : decode cX15_looks 203 = .ok (.iconst 1, 1) := by decide +kernel
set_option maxRecDepth 20000 in
theorem dX15_looks_204 : decode cX15_looks 204 = .ok (.if_icmp .ne 18, 3) := by decide +kernel
set_option maxRecDepth 20000 in
theorem dX15_looks_207 : decode cX15_looks 207 = .ok (.aload_n 0, 1) := by decide +kernel
set_option maxRecDepth 20000 in
theorem dX15_looks_208 : decode cX15_looks 208 = .ok (.getfield 19, 3) := by decide +kernel
set_option maxRecDepth 20000 in
theorem dX15_looks_211 : decode cX15_looks 211 = .ok (.iload_n 3, 1) := by decide +kernel
set_option maxRecDepth 20000 in
theorem dX15_looks_212 : decode cX15_looks 212 = .ok (.invokestatic 100, 3) := by decide +kernel
set_option maxRecDepth 20000 in
theorem dX15_looks_215 : decode cX15_looks 215 = .ok (.ifCond .ne 7, 3) := by decide +kernel
set_option maxRecDepth 20000 in
theorem dX15_looks_218 : decode cX15_looks 218 = .ok (.iconst 1, 1) := by decide +kernel
set_option maxRecDepth 20000 in
theorem dX15_looks_219 : decode cX15_looks 219 = .ok (.goto 4, 3) := by decide +kernel
set_option maxRecDepth 20000 in
theorem dX15_looks_222 : decode cX15_looks 222 = .ok (.iconst 0, 1) := by decide +kernel
set_option maxRecDepth 20000 in
theorem dX15_looks_223 : decode cX15_looks 223 = .ok (.istore 6, 2) := by decide +kernel
set_option maxRecDepth 20000 in
theorem dX15_looks_225 : decode cX15_looks 225 = .ok (.iload 6, 2) := by decide +kernel
set_option maxRecDepth 20000 in
theorem dX15_looks_227 : decode cX15_looks 227 = .ok (.ifCond .eq 20, 3) := by decide +kernel
set_option maxRecDepth 20000 in
theorem dX15_looks_230 : decode cX15_looks 230 = .ok (.aload_n 1, 1) := by decide +kernel
set_option maxRecDepth 20000 in
theorem dX15_looks_231 : decode cX15_looks 231 = .ok (.getfield 147, 3) := by decide +kernel
set_option maxRecDepth 20000 in
theorem dX15_looks_234 : decode cX15_looks 234 = .ok (.ifCond .ne 13, 3) := by decide +kernel
set_option maxRecDepth 20000 in
theorem dX15_looks_237 : decode cX15_looks 237 = .ok (.aload_n 0, 1) := by decide +kernel
set_option maxRecDepth 20000 in
theorem dX15_looks_238 : decode cX15_looks 238 = .ok (.aload_n 1, 1) := by decide +kernel
set_option maxRecDepth 20000 in
theorem dX15_looks_239 : decode cX15_looks 239 = .ok (.aload_n 0, 1) := by decide +kernel
set_option maxRecDepth 20000 in
theorem dX15_looks_240 : decode cX15_looks 240 = .ok (.getfield 19, 3) := by decide +kernel
set_option maxRecDepth 20000 in
theorem dX15_looks_243 : decode cX15_looks 243 = .ok (.iload_n 3, 1) := by decide +kernel
set_option maxRecDepth 20000 in
theorem dX15_looks_244 : decode cX15_looks 244 = .ok (.invokevirtual 254, 3) := by decide +kernel
set_option maxRecDepth 20000 in
theorem dX15_looks_247 : decode cX15_looks 247 = .ok (.goto 85, 3) := by decide +kernel
set_option maxRecDepth 20000 in
theorem dX15_looks_250 : decode cX15_looks 250 = .ok (.iload_n 2, 1) := by decide +kernel
set_option maxRecDepth 20000 in
theorem dX15_looks_251 : decode cX15_looks 251 = .ok (.ifCond .ne 57, 3) := by decide +kernel
set_option maxRecDepth 20000 in
theorem dX15_looks_254 : decode cX15_looks 254 = .ok (.iload 4, 2) := by decide +kernel
set_option maxRecDepth 20000 in
theorem dX15_looks_256 : decode cX15_looks 256 = .ok (.iconst 5, 1) := by decide +kernel
set_option maxRecDepth 20000 in
theorem dX15_looks_257 : decode cX15_looks 257 = .ok (.if_icmp .eq 38, 3) := by decide +kernel
set_option maxRecDepth 20000 in
theorem dX15_looks_260 : decode cX15_looks 260 = .ok (.iload 4, 2) := by decide +kernel
set_option maxRecDepth 20000 in
theorem dX15_looks_262 : decode cX15_looks 262 = .ok (.bipush 6, 2) := by decide +kernel
set_option maxRecDepth 20000 in
theorem dX15_looks_264 : decode cX15_looks 264 = .ok (.if_icmp .eq 31, 3) := by decide +kernel
set_option maxRecDepth 20000 in
theorem dX15_looks_267 : decode cX15_looks 267 = .ok (.iload 4, 2) := by decide +kernel
set_option maxRecDepth 20000 in
theorem dX15_looks_269 : decode cX15_looks 269 = .ok (.bipush 15, 2) := by decide +kernel
set_option maxRecDepth 20000 in
theorem dX15_looks_271 : decode cX15_looks 271 = .ok (.if_icmp .eq 24, 3) := by decide +kernel
set_option maxRecDepth 20000 in
theorem dX15_looks_274 : decode cX15_looks 274 = .ok (.iload 4, 2) := by decide +kernel
set_option maxRecDepth 20000 in
theorem dX15_looks_276 : decode cX15_looks 276 = .ok (.bipush 16, 2) := by decide +kernel
set_option maxRecDepth 20000 in
theorem dX15_looks_278 : decode cX15_looks 278 = .ok (.if_icmp .eq 17, 3) := by decide +kernel
set_option maxRecDepth 20000 in
theorem dX15_looks_281 : decode cX15_looks 281 = .ok (.iload 4, 2) := by decide +kernel
set_option maxRecDepth 20000 in
theorem dX15_looks_283 : decode cX15_looks 283 = .ok (.bipush 21, 2) := by decide +kernel
set_option maxRecDepth 20000 in
theorem dX15_looks_285 : decode cX15_looks 285 = .ok (.if_icmp .eq 10, 3) := by decide +kernel
set_option maxRecDepth 20000 in
theorem dX15_looks_288 : decode cX15_looks 288 = .ok (.iload 4, 2) := by decide +kernel
set_option maxRecDepth 20000 in
theorem dX15_looks_290 : decode cX15_looks 290 = .ok (.bipush 22, 2) := by decide +kernel
set_option maxRecDepth 20000 in
theorem dX15_looks_292 : decode cX15_looks 292 = .ok (.if_icmp .ne 40, 3) := by decide +kernel
set_option maxRecDepth 20000 in
theorem dX15_looks_295 : decode cX15_looks 295 = .ok (.aload_n 0, 1) := by decide +kernel
set_option maxRecDepth 20000 in
theorem dX15_looks_296 : decode cX15_looks 296 = .ok (.aload_n 1, 1) := by decide +kernel
set_option maxRecDepth 20000 in
theorem dX15_looks_297 : decode cX15_looks 297 = .ok (.aload_n 0, 1) := by decide +kernel
set_option maxRecDepth 20000 in
theorem dX15_looks_298 : decode cX15_looks 298 = .ok (.getfield 19, 3) := by decide +kernel
set_option maxRecDepth 20000 in
theorem dX15_looks_301 : decode cX15_looks 301 = .ok (.iload_n 3, 1) := by decide +kernel
set_option maxRecDepth 20000 in
theorem dX15_looks_302 : decode cX15_looks 302 = .ok (.invokevirtual 254, 3) := by decide +kernel
set_option maxRecDepth 20000 in
theorem dX15_looks_305 : decode cX15_looks 305 = .ok (.goto 27, 3) := by decide +kernel
set_option maxRecDepth 20000 in
theorem dX15_looks_308 : decode cX15_looks 308 = .ok (.aload_n 0, 1) := by decide +kernel
set_option maxRecDepth 20000 in
theorem dX15_looks_309 : decode cX15_looks 309 = .ok (.aload_n 1, 1) := by decide +kernel
set_option maxRecDepth 20000 in
theorem dX15_looks_310 : decode cX15_looks 310 = .ok (.aload_n 0, 1) := by decide +kernel
set_option maxRecDepth 20000 in
theorem dX15_looks_311 : decode cX15_looks 311 = .ok (.getfield 19, 3) := by decide +kernel
set_option maxRecDepth 20000 in
theorem dX15_looks_314 : decode cX15_looks 314 = .ok (.iload_n 3, 1) := by decide +kernel
set_option maxRecDepth 20000 in
theorem dX15_looks_315 : decode cX15_looks 315 = .ok (.invokevirtual 254, 3) := by decide +kernel
set_option maxRecDepth 20000 in
theorem dX15_looks_318 : decode cX15_looks 318 = .ok (.aload_n 0, 1) := by decide +kernel
set_option maxRecDepth 20000 in
theorem dX15_looks_319 : decode cX15_looks 319 = .ok (.getfield 89, 3) := by decide +kernel
set_option maxRecDepth 20000 in
theorem dX15_looks_322 : decode cX15_looks 322 = .ok (.ifCond .le 7, 3) := by decide +kernel
set_option maxRecDepth 20000 in
theorem dX15_looks_325 : decode cX15_looks 325 = .ok (.iconst 1, 1) := by decide +kernel
set_option maxRecDepth 20000 in
theorem dX15_looks_326 : decode cX15_looks 326 = .ok (.goto 4, 3) := by decide +kernel
set_option maxRecDepth 20000 in
theorem dX15_looks_329 : decode cX15_looks 329 = .ok (.iconst 0, 1) := by decide +kernel
set_option maxRecDepth 20000 in
theorem dX15_looks_330 : decode cX15_looks 330 = .ok (.istore 5, 2) := by decide +kernel
set_option maxRecDepth 20000 in
theorem dX15_looks_332 : decode cX15_looks 332 = .ok (.iload 5, 2) := by decide +kernel
set_option maxRecDepth 20000 in
theorem dX15_looks_334 : decode cX15_looks 334 = .ok (.ifCond .ne 9, 3) := by decide +kernel
set_option maxRecDepth 20000 in
theorem dX15_looks_337 : decode cX15_looks 337 = .ok (.aload_n 1, 1) := by decide +kernel
set_option maxRecDepth 20000 in
theorem dX15_looks_338 : decode cX15_looks 338 = .ok (.iconst 4, 1) := by decide +kernel
set_option maxRecDepth 20000 in
theorem dX15_looks_339 : decode cX15_looks 339 = .ok (.invokevirtual 150, 3) := by decide +kernel
set_option maxRecDepth 20000 in
theorem dX15_looks_342 : decode cX15_looks 342 = .ok (.return_, 1) := by decide +kernel
set_option maxRecDepth 20000 in
theorem dX15_looks_343 : decode cX15_looks 343 = .ok (.iconst 0, 1) := by decide +kernel
set_option maxRecDepth 20000 in
theorem dX15_looks_344 : decode cX15_looks 344 = .ok (.istore 6, 2) := by decide +kernel
set_option maxRecDepth 20000 in
theorem dX15_looks_346 : decode cX15_looks 346 = .ok (.iload 6, 2) := by decide +kernel
set_option maxRecDepth 20000 in
theorem dX15_looks_348 : decode cX15_looks 348 = .ok (.aload_n 0, 1) := by decide +kernel
set_option maxRecDepth 20000 in
theorem dX15_looks_349 : decode cX15_looks 349 = .ok (.getfield 89, 3) := by decide +kernel
set_option maxRecDepth 20000 in
theorem dX15_looks_352 : decode cX15_looks 352 = .ok (.if_icmp .ge 23, 3) := by decide +kernel
set_option maxRecDepth 20000 in
theorem dX15_looks_355 : decode cX15_looks 355 = .ok (.aload_n 1, 1) := by decide +kernel
set_option maxRecDepth 20000 in
theorem dX15_looks_356 : decode cX15_looks 356 = .ok (.getfield 257, 3) := by decide +kernel
set_option maxRecDepth 20000 in
theorem dX15_looks_359 : decode cX15_looks 359 = .ok (.iload 6, 2) := by decide +kernel
set_option maxRecDepth 20000 in
theorem dX15_looks_361 : decode cX15_looks 361 = .ok (.aload_n 0, 1) := by decide +kernel
set_option maxRecDepth 20000 in
theorem dX15_looks_362 : decode cX15_looks 362 = .ok (.getfield 15, 3) := by decide +kernel
set_option maxRecDepth 20000 in
theorem dX15_looks_365 : decode cX15_looks 365 = .ok (.iload 6, 2) := by decide +kernel
set_option maxRecDepth 20000 in
theorem dX15_looks_367 : decode cX15_looks 367 = .ok (.iaload, 1) := by decide +kernel
set_option maxRecDepth 20000 in
theorem dX15_looks_368 : decode cX15_looks 368 = .ok (.iastore, 1) := by decide +kernel
set_option maxRecDepth 20000 in
theorem dX15_looks_369 : decode cX15_looks 369 = .ok (.iinc 6 1, 3) := by decide +kernel
set_option maxRecDepth 20000 in
theorem dX15_looks_372 : decode cX15_looks 372 = .ok (.goto (-26), 3) := by decide +kernel
set_option maxRecDepth 20000 in
theorem dX15_looks_375 : decode cX15_looks 375 = .ok (.aload_n 1, 1) := by decide +kernel
set_option maxRecDepth 20000 in
theorem dX15_looks_376 : decode cX15_looks 376 = .ok (.aload_n 0, 1) := by decide +kernel
set_option maxRecDepth 20000 in
theorem dX15_looks_377 : decode cX15_looks 377 = .ok (.getfield 89, 3) := by decide +kernel
set_option maxRecDepth 20000 in
theorem dX15_looks_380 : decode cX15_looks 380 = .ok (.putfield 260, 3) := by decide +kernel
set_option maxRecDepth 20000 in
theorem dX15_looks_383 : decode cX15_looks 383 = .ok (.aload_n 1, 1) := by decide +kernel
set_option maxRecDepth 20000 in
theorem dX15_looks_384 : decode cX15_looks 384 = .ok (.aload_n 1, 1) := by decide +kernel
set_option maxRecDepth 20000 in
theorem dX15_looks_385 : decode cX15_looks 385 = .ok (.getfield 263, 3) := by decide +kernel
set_option maxRecDepth 20000 in
theorem dX15_looks_388 : decode cX15_looks 388 = .ok (.putfield 266, 3) := by decide +kernel
set_option maxRecDepth 20000 in
theorem dX15_looks_391 : decode cX15_looks 391 = .ok (.aload_n 0, 1) := by decide +kernel
set_option maxRecDepth 20000 in
theorem dX15_looks_392 : decode cX15_looks 392 = .ok (.getfield 89, 3) := by decide +kernel
set_option maxRecDepth 20000 in
theorem dX15_looks_395 : decode cX15_looks 395 = .ok (.iconst 2, 1) := by decide +kernel
set_option maxRecDepth 20000 in
theorem dX15_looks_396 : decode cX15_looks 396 = .ok (.if_icmp .ne 19, 3) := by decide +kernel
set_option maxRecDepth 20000 in
theorem dX15_looks_399 : decode cX15_looks 399 = .ok (.aload_n 0, 1) := by decide +kernel
set_option maxRecDepth 20000 in
theorem dX15_looks_400 : decode cX15_looks 400 = .ok (.getfield 15, 3) := by decide +kernel
set_option maxRecDepth 20000 in
theorem dX15_looks_403 : decode cX15_looks 403 = .ok (.iload 4, 2) := by decide +kernel
set_option maxRecDepth 20000 in
theorem dX15_looks_405 : decode cX15_looks 405 = .ok (.invokestatic 269, 3) := by decide +kernel
set_option maxRecDepth 20000 in
theorem dX15_looks_408 : decode cX15_looks 408 = .ok (.ifCond .eq 7, 3) := by decide +kernel
set_option maxRecDepth 20000 in
theorem dX15_looks_411 : decode cX15_looks 411 = .ok (.iconst 1, 1) := by decide +kernel
set_option maxRecDepth 20000 in
theorem dX15_looks_412 : decode cX15_looks 412 = .ok (.goto 4, 3) := by decide +kernel
set_option maxRecDepth 20000 in
theorem dX15_looks_415 : decode cX15_looks 415 = .ok (.iconst 0, 1) := by decide +kernel
set_option maxRecDepth 20000 in
theorem dX15_looks_416 : decode cX15_looks 416 = .ok (.istore 6, 2) := by decide +kernel
set_option maxRecDepth 20000 in
theorem dX15_looks_418 : decode cX15_looks 418 = .ok (.iload 6, 2) := by decide +kernel
set_option maxRecDepth 20000 in
theorem dX15_looks_420 : decode cX15_looks 420 = .ok (.ifCond .eq 8, 3) := by decide +kernel
set_option maxRecDepth 20000 in
theorem dX15_looks_423 : decode cX15_looks 423 = .ok (.aload_n 1, 1) := by decide +kernel
set_option maxRecDepth 20000 in
theorem dX15_looks_424 : decode cX15_looks 424 = .ok (.iconst 2, 1) := by decide +kernel
set_option maxRecDepth 20000 in
theorem dX15_looks_425 : decode cX15_looks 425 = .ok (.invokevirtual 150, 3) := by decide +kernel
set_option maxRecDepth 20000 in
theorem dX15_looks_428 : decode cX15_looks 428 = .ok (.aload_n 1, 1) := by decide +kernel
set_option maxRecDepth 20000 in
theorem dX15_looks_429 : decode cX15_looks 429 = .ok (.iload 6, 2) := by decide +kernel
set_option maxRecDepth 20000 in
theorem dX15_looks_431 : decode cX15_looks 431 = .ok (.ifCond .ne 8, 3) := by decide +kernel
set_option maxRecDepth 20000 in
theorem dX15_looks_434 : decode cX15_looks 434 = .ok (.bipush 64, 2) := by decide +kernel
set_option maxRecDepth 20000 in
theorem dX15_looks_436 : decode cX15_looks 436 = .ok (.goto 21, 3) := by decide +kernel
set_option maxRecDepth 20000 in
theorem dX15_looks_439 : decode cX15_looks 439 = .ok (.aload_n 0, 1) := by decide +kernel
set_option maxRecDepth 20000 in
theorem dX15_looks_440 : decode cX15_looks 440 = .ok (.getfield 15, 3) := by decide +kernel
set_option maxRecDepth 20000 in
theorem dX15_looks_443 : decode cX15_looks 443 = .ok (.iconst 1, 1) := by decide +kernel
set_option maxRecDepth 20000 in
theorem dX15_looks_444 : decode cX15_looks 444 = .ok (.iaload, 1) := by decide +kernel
set_option maxRecDepth 20000 in
theorem dX15_looks_445 : decode cX15_looks 445 = .ok (.bipush 6, 2) := by decide +kernel
set_option maxRecDepth 20000 in
theorem dX15_looks_447 : decode cX15_looks 447 = .ok (.if_icmp .ne 8, 3) := by decide +kernel
set_option maxRecDepth 20000 in
theorem dX15_looks_450 : decode cX15_looks 450 = .ok (.bipush 68, 2) := by decide +kernel
set_option maxRecDepth 20000 in
theorem dX15_looks_452 : decode cX15_looks 452 = .ok (.goto 5, 3) := by decide +kernel
set_option maxRecDepth 20000 in
theorem dX15_looks_455 : decode cX15_looks 455 = .ok (.bipush 65, 2) := by decide +kernel
set_option maxRecDepth 20000 in
theorem dX15_looks_457 : decode cX15_looks 457 = .ok (.invokevirtual 215, 3) := by decide +kernel
set_option maxRecDepth 20000 in
theorem dX15_looks_460 : decode cX15_looks 460 = .ok (.return_, 1) := by decide +kernel
set_option maxRecDepth 20000 in
theorem dX15_isRefusal_0 : decode cX15_isRefusal 0 = .ok (.aload_n 0, 1) := by decide +kernel
set_option maxRecDepth 20000 in
theorem dX15_isRefusal_1 : decode cX15_isRefusal 1 = .ok (.iconst 0, 1) := by decide +kernel
set_option maxRecDepth 20000 in
theorem dX15_isRefusal_2 : decode cX15_isRefusal 2 = .ok (.iaload, 1) := by decide +kernel
set_option maxRecDepth 20000 in
theorem dX15_isRefusal_3 : decode cX15_isRefusal 3 = .ok (.iload_n 1, 1) := by decide +kernel
set_option maxRecDepth 20000 in
theorem dX15_isRefusal_4 : decode cX15_isRefusal 4 = .ok (.sipush 128, 3) := by decide +kernel
set_option maxRecDepth 20000 in
theorem dX15_isRefusal_7 : decode cX15_isRefusal 7 = .ok (.iadd, 1) := by decide +kernel
set_option maxRecDepth 20000 in
theorem dX15_isRefusal_8 : decode cX15_isRefusal 8 = .ok (.sipush 256, 3) := by decide +kernel
set_option maxRecDepth 20000 in
theorem dX15_isRefusal_11 : decode cX15_isRefusal 11 = .ok (.irem, 1) := by decide +kernel
set_option maxRecDepth 20000 in
theorem dX15_isRefusal_12 : decode cX15_isRefusal 12 = .ok (.if_icmp .ne 7, 3) := by decide +kernel
set_option maxRecDepth 20000 in
theorem dX15_isRefusal_15 : decode cX15_isRefusal 15 = .ok (.iconst 1, 1) := by decide +kernel
set_option maxRecDepth 20000 in
theorem dX15_isRefusal_16 : decode cX15_isRefusal 16 = .ok (.goto 4, 3) := by decide +kernel
set_option maxRecDepth 20000 in
theorem dX15_isRefusal_19 : decode cX15_isRefusal 19 = .ok (.iconst 0, 1) := by decide +kernel
set_option maxRecDepth 20000 in
theorem dX15_isRefusal_20 : decode cX15_isRefusal 20 = .ok (.ireturn, 1) := by decide +kernel
set_option maxRecDepth 20000 in
theorem dX15_obeys_0 : decode cX15_obeys 0 = .ok (.iconst 0, 1) := by decide +kernel
set_option maxRecDepth 20000 in
theorem dX15_obeys_1 : decode cX15_obeys 1 = .ok (.istore_n 1, 1) := by decide +kernel
set_option maxRecDepth 20000 in
theorem dX15_obeys_2 : decode cX15_obeys 2 = .ok (.iload_n 1, 1) := by decide +kernel
set_option maxRecDepth 20000 in
theorem dX15_obeys_3 : decode cX15_obeys 3 = .ok (.aload_n 0, 1) := by decide +kernel
set_option maxRecDepth 20000 in
theorem dX15_obeys_4 : decode cX15_obeys 4 = .ok (.getfield 272, 3) := by decide +kernel
set_option maxRecDepth 20000 in
theorem dX15_obeys_7 : decode cX15_obeys 7 = .ok (.if_icmp .ge 59, 3) := by decide +kernel
set_option maxRecDepth 20000 in
theorem dX15_obeys_10 : decode cX15_obeys 10 = .ok (.aload_n 0, 1) := by decide +kernel
set_option maxRecDepth 20000 in
theorem dX15_obeys_11 : decode cX15_obeys 11 = .ok (.getfield 275, 3) := by decide +kernel
set_option maxRecDepth 20000 in
theorem dX15_obeys_14 : decode cX15_obeys 14 = .ok (.iconst 4, 1) := by decide +kernel
set_option maxRecDepth 20000 in
theorem dX15_obeys_15 : decode cX15_obeys 15 = .ok (.iload_n 1, 1) := by decide +kernel
set_option maxRecDepth 20000 in
theorem dX15_obeys_16 : decode cX15_obeys 16 = .ok (.imul, 1) := by decide +kernel
set_option maxRecDepth 20000 in
theorem dX15_obeys_17 : decode cX15_obeys 17 = .ok (.iconst 1, 1) := by decide +kernel
set_option maxRecDepth 20000 in
theorem dX15_obeys_18 : decode cX15_obeys 18 = .ok (.iadd, 1) := by decide +kernel
set_option maxRecDepth 20000 in
theorem dX15_obeys_19 : decode cX15_obeys 19 = .ok (.iaload, 1) := by decide +kernel
set_option maxRecDepth 20000 in
theorem dX15_obeys_20 : decode cX15_obeys 20 = .ok (.istore_n 2, 1) := by decide +kernel
set_option maxRecDepth 20000 in
theorem dX15_obeys_21 : decode cX15_obeys 21 = .ok (.aload_n 0, 1) := by decide +kernel
set_option maxRecDepth 20000 in
theorem dX15_obeys_22 : decode cX15_obeys 22 = .ok (.getfield 275, 3) := by decide +kernel
set_option maxRecDepth 20000 in
theorem dX15_obeys_25 : decode cX15_obeys 25 = .ok (.iconst 4, 1) := by decide +kernel
set_option maxRecDepth 20000 in
theorem dX15_obeys_26 : decode cX15_obeys 26 = .ok (.iload_n 1, 1) := by decide +kernel
set_option maxRecDepth 20000 in
theorem dX15_obeys_27 : decode cX15_obeys 27 = .ok (.imul, 1) := by decide +kernel
set_option maxRecDepth 20000 in
theorem dX15_obeys_28 : decode cX15_obeys 28 = .ok (.iconst 2, 1) := by decide +kernel
set_option maxRecDepth 20000 in
theorem dX15_obeys_29 : decode cX15_obeys 29 = .ok (.iadd, 1) := by decide +kernel
set_option maxRecDepth 20000 in
theorem dX15_obeys_30 : decode cX15_obeys 30 = .ok (.iaload, 1) := by decide +kernel
set_option maxRecDepth 20000 in
theorem dX15_obeys_31 : decode cX15_obeys 31 = .ok (.istore_n 3, 1) := by decide +kernel
set_option maxRecDepth 20000 in
theorem dX15_obeys_32 : decode cX15_obeys 32 = .ok (.aload_n 0, 1) := by decide +kernel
set_option maxRecDepth 20000 in
theorem dX15_obeys_33 : decode cX15_obeys 33 = .ok (.getfield 275, 3) := by decide +kernel
set_option maxRecDepth 20000 in
theorem dX15_obeys_36 : decode cX15_obeys 36 = .ok (.iconst 4, 1) := by decide +kernel
set_option maxRecDepth 20000 in
theorem dX15_obeys_37 : decode cX15_obeys 37 = .ok (.iload_n 1, 1) := by decide +kernel
set_option maxRecDepth 20000 in
theorem dX15_obeys_38 : decode cX15_obeys 38 = .ok (.imul, 1) := by decide +kernel
set_option maxRecDepth 20000 in
theorem dX15_obeys_39 : decode cX15_obeys 39 = .ok (.iconst 3, 1) := by decide +kernel
set_option maxRecDepth 20000 in
theorem dX15_obeys_40 : decode cX15_obeys 40 = .ok (.iadd, 1) := by decide +kernel
set_option maxRecDepth 20000 in
theorem dX15_obeys_41 : decode cX15_obeys 41 = .ok (.iaload, 1) := by decide +kernel
set_option maxRecDepth 20000 in
theorem dX15_obeys_42 : decode cX15_obeys 42 = .ok (.istore 4, 2) := by decide +kernel
set_option maxRecDepth 20000 in
theorem dX15_obeys_44 : decode cX15_obeys 44 = .ok (.aload_n 0, 1) := by decide +kernel
set_option maxRecDepth 20000 in
theorem dX15_obeys_45 : decode cX15_obeys 45 = .ok (.aload_n 0, 1) := by decide +kernel
set_option maxRecDepth 20000 in
theorem dX15_obeys_46 : decode cX15_obeys 46 = .ok (.getfield 275, 3) := by decide +kernel
set_option maxRecDepth 20000 in
theorem dX15_obeys_49 : decode cX15_obeys 49 = .ok (.iconst 4, 1) := by decide +kernel
set_option maxRecDepth 20000 in
theorem dX15_obeys_50 : decode cX15_obeys 50 = .ok (.iload_n 1, 1) := by decide +kernel
set_option maxRecDepth 20000 in
theorem dX15_obeys_51 : decode cX15_obeys 51 = .ok (.imul, 1) := by decide +kernel
set_option maxRecDepth 20000 in
theorem dX15_obeys_52 : decode cX15_obeys 52 = .ok (.iaload, 1) := by decide +kernel
set_option maxRecDepth 20000 in
theorem dX15_obeys_53 : decode cX15_obeys 53 = .ok (.iload_n 2, 1) := by decide +kernel
set_option maxRecDepth 20000 in
theorem dX15_obeys_54 : decode cX15_obeys 54 = .ok (.iload_n 3, 1) := by decide +kernel
set_option maxRecDepth 20000 in
theorem dX15_obeys_55 : decode cX15_obeys 55 = .ok (.iload 4, 2) := by decide +kernel
set_option maxRecDepth 20000 in
theorem dX15_obeys_57 : decode cX15_obeys 57 = .ok (.invokestatic 278, 3) := by decide +kernel
set_option maxRecDepth 20000 in
theorem dX15_obeys_60 : decode cX15_obeys 60 = .ok (.iinc 1 1, 3) := by decide +kernel
set_option maxRecDepth 20000 in
theorem dX15_obeys_63 : decode cX15_obeys 63 = .ok (.goto (-61), 3) := by decide +kernel
set_option maxRecDepth 20000 in
theorem dX15_obeys_66 : decode cX15_obeys 66 = .ok (.return_, 1) := by decide +kernel
set_option maxRecDepth 20000 in
theorem dX15_obeys__0 : decode cX15_obeys_ 0 = .ok (.aload_n 0, 1) := by decide +kernel
set_option maxRecDepth 20000 in
theorem dX15_obeys__1 : decode cX15_obeys_ 1 = .ok (.iconst 3, 1) := by decide +kernel
set_option maxRecDepth 20000 in
theorem dX15_obeys__2 : decode cX15_obeys_ 2 = .ok (.iload_n 2, 1) := by decide +kernel
set_option maxRecDepth 20000 in
theorem dX15_obeys__3 : decode cX15_obeys_ 3 = .ok (.iconst 1, 1) := by decide +kernel
set_option maxRecDepth 20000 in
theorem dX15_obeys__4 : decode cX15_obeys_ 4 = .ok (.invokevirtual 107, 3) := by decide +kernel
set_option maxRecDepth 20000 in
theorem dX15_obeys__7 : decode cX15_obeys_ 7 = .ok (.istore 5, 2) := by decide +kernel
set_option maxRecDepth 20000 in
theorem dX15_obeys__9 : decode cX15_obeys_ 9 = .ok (.iload_n 1, 1) := by decide +kernel
set_option maxRecDepth 20000 in
theorem dX15_obeys__10 : decode cX15_obeys_ 10 = .ok (.tableswitch 295 0 5 #[38, 62, 90, 158, 212, 250], 38) := by decide +kernel
set_option maxRecDepth 20000 in
theorem dX15_obeys__48 : decode cX15_obeys_ 48 = .ok (.iload 5, 2) := by decide +kernel
set_option maxRecDepth 20000 in
theorem dX15_obeys__50 : decode cX15_obeys_ 50 = .ok (.ifCond .eq 21, 3) := by decide +kernel
set_option maxRecDepth 20000 in
theorem dX15_obeys__53 : decode cX15_obeys_ 53 = .ok (.aload_n 0, 1) := by decide +kernel
set_option maxRecDepth 20000 in
theorem dX15_obeys__54 : decode cX15_obeys_ 54 = .ok (.iconst 3, 1) := by decide +kernel
set_option maxRecDepth 20000 in
theorem dX15_obeys__55 : decode cX15_obeys_ 55 = .ok (.iload_n 2, 1) := by decide +kernel
set_option maxRecDepth 20000 in
theorem dX15_obeys__56 : decode cX15_obeys_ 56 = .ok (.aload_n 0, 1) := by decide +kernel
set_option maxRecDepth 20000 in
theorem dX15_obeys__57 : decode cX15_obeys_ 57 = .ok (.iconst 3, 1) := by decide +kernel
set_option maxRecDepth 20000 in
theorem dX15_obeys__58 : decode cX15_obeys_ 58 = .ok (.iload_n 2, 1) := by decide +kernel
set_option maxRecDepth 20000 in
theorem dX15_obeys__59 : decode cX15_obeys_ 59 = .ok (.invokevirtual 137, 3) := by decide +kernel
set_option maxRecDepth 20000 in
theorem dX15_obeys__62 : decode cX15_obeys_ 62 = .ok (.iload_n 3, 1) := by decide +kernel
set_option maxRecDepth 20000 in
theorem dX15_obeys__63 : decode cX15_obeys_ 63 = .ok (.iadd, 1) := by decide +kernel
set_option maxRecDepth 20000 in
theorem dX15_obeys__64 : decode cX15_obeys_ 64 = .ok (.ldc_w 281, 3) := by decide +kernel
set_option maxRecDepth 20000 in
theorem dX15_obeys__67 : decode cX15_obeys_ 67 = .ok (.irem, 1) := by decide +kernel
set_option maxRecDepth 20000 in
theorem dX15_obeys__68 : decode cX15_obeys_ 68 = .ok (.invokevirtual 164, 3) := by decide +kernel
set_option maxRecDepth 20000 in
theorem dX15_obeys__71 : decode cX15_obeys_ 71 = .ok (.return_, 1) := by decide +kernel
set_option maxRecDepth 20000 in
theorem dX15_obeys__72 : decode cX15_obeys_ 72 = .ok (.iload 5, 2) := by decide +kernel
set_option maxRecDepth 20000 in
theorem dX15_obeys__74 : decode cX15_obeys_ 74 = .ok (.ifCond .eq 25, 3) := by decide +kernel
set_option maxRecDepth 20000 in
theorem dX15_obeys__77 : decode cX15_obeys_ 77 = .ok (.aload_n 0, 1) := by decide +kernel
set_option maxRecDepth 20000 in
theorem dX15_obeys__78 : decode cX15_obeys_ 78 = .ok (.iconst 2, 1) := by decide +kernel
set_option maxRecDepth 20000 in
theorem dX15_obeys__79 : decode cX15_obeys_ 79 = .ok (.iload_n 3, 1) := by decide +kernel
set_option maxRecDepth 20000 in
theorem dX15_obeys__80 : decode cX15_obeys_ 80 = .ok (.iconst 1, 1) := by decide +kernel
set_option maxRecDepth 20000 in
theorem dX15_obeys__81 : decode cX15_obeys_ 81 = .ok (.invokevirtual 107, 3) := by decide +kernel
set_option maxRecDepth 20000 in
theorem dX15_obeys__84 : decode cX15_obeys_ 84 = .ok (.ifCond .eq 15, 3) := by decide +kernel
set_option maxRecDepth 20000 in
theorem dX15_obeys__87 : decode cX15_obeys_ 87 = .ok (.aload_n 0, 1) := by decide +kernel
set_option maxRecDepth 20000 in
theorem dX15_obeys__88 : decode cX15_obeys_ 88 = .ok (.iconst 3, 1) := by decide +kernel
set_option maxRecDepth 20000 in
theorem dX15_obeys__89 : decode cX15_obeys_ 89 = .ok (.iload_n 2, 1) := by decide +kernel
set_option maxRecDepth 20000 in
theorem dX15_obeys__90 : decode cX15_obeys_ 90 = .ok (.aload_n 0, 1) := by decide +kernel
set_option maxRecDepth 20000 in
theorem dX15_obeys__91 : decode cX15_obeys_ 91 = .ok (.iconst 2, 1) := by decide +kernel
set_option maxRecDepth 20000 in
theorem dX15_obeys__92 : decode cX15_obeys_ 92 = .ok (.iload_n 3, 1) := by decide +kernel
set_option maxRecDepth 20000 in
theorem dX15_obeys__93 : decode cX15_obeys_ 93 = .ok (.invokevirtual 137, 3) := by decide +kernel
set_option maxRecDepth 20000 in
theorem dX15_obeys__96 : decode cX15_obeys_ 96 = .ok (.invokevirtual 164, 3) := by decide +kernel
set_option maxRecDepth 20000 in
theorem dX15_obeys__99 : decode cX15_obeys_ 99 = .ok (.return_, 1) := by decide +kernel
set_option maxRecDepth 20000 in
theorem dX15_obeys__100 : decode cX15_obeys_ 100 = .ok (.iload 5, 2) := by decide +kernel
set_option maxRecDepth 20000 in
theorem dX15_obeys__102 : decode cX15_obeys_ 102 = .ok (.ifCond .eq 65, 3) := by decide +kernel
set_option maxRecDepth 20000 in
theorem dX15_obeys__105 : decode cX15_obeys_ 105 = .ok (.aload_n 0, 1) := by decide +kernel
set_option maxRecDepth 20000 in
theorem dX15_obeys__106 : decode cX15_obeys_ 106 = .ok (.iconst 2, 1) := by decide +kernel
set_option maxRecDepth 20000 in
theorem dX15_obeys__107 : decode cX15_obeys_ 107 = .ok (.iload_n 3, 1) := by decide +kernel
set_option maxRecDepth 20000 in
theorem dX15_obeys__108 : decode cX15_obeys_ 108 = .ok (.iconst 1, 1) := by decide +kernel
set_option maxRecDepth 20000 in
theorem dX15_obeys__109 : decode cX15_obeys_ 109 = .ok (.invokevirtual 107, 3) := by decide +kernel
set_option maxRecDepth 20000 in
theorem dX15_obeys__112 : decode cX15_obeys_ 112 = .ok (.ifCond .eq 55, 3) := by decide +kernel
set_option maxRecDepth 20000 in
theorem dX15_obeys__115 : decode cX15_obeys_ 115 = .ok (.aload_n 0, 1) := by decide +kernel
set_option maxRecDepth 20000 in
theorem dX15_obeys__116 : decode cX15_obeys_ 116 = .ok (.iconst 3, 1) := by decide +kernel
set_option maxRecDepth 20000 in
theorem dX15_obeys__117 : decode cX15_obeys_ 117 = .ok (.iload_n 2, 1) := by decide +kernel
set_option maxRecDepth 20000 in
theorem dX15_obeys__118 : decode cX15_obeys_ 118 = .ok (.invokevirtual 137, 3) := by decide +kernel
set_option maxRecDepth 20000 in
theorem dX15_obeys__121 : decode cX15_obeys_ 121 = .ok (.istore 6, 2) := by decide +kernel
set_option maxRecDepth 20000 in
theorem dX15_obeys__123 : decode cX15_obeys_ 123 = .ok (.aload_n 0, 1) := by decide +kernel
set_option maxRecDepth 20000 in
theorem dX15_obeys__124 : decode cX15_obeys_ 124 = .ok (.iconst 2, 1) := by decide +kernel
set_option maxRecDepth 20000 in
theorem dX15_obeys__125 : decode cX15_obeys_ 125 = .ok (.iload_n 3, 1) := by decide +kernel
set_option maxRecDepth 20000 in
theorem dX15_obeys__126 : decode cX15_obeys_ 126 = .ok (.invokevirtual 137, 3) := by decide +kernel
set_option maxRecDepth 20000 in
theorem dX15_obeys__129 : decode cX15_obeys_ 129 = .ok (.istore 7, 2) := by decide +kernel
set_option maxRecDepth 20000 in
theorem dX15_obeys__131 : decode cX15_obeys_ 131 = .ok (.aload_n 0, 1) := by decide +kernel
set_option maxRecDepth 20000 in
theorem dX15_obeys__132 : decode cX15_obeys_ 132 = .ok (.iconst 3, 1) := by decide +kernel
set_option maxRecDepth 20000 in
theorem dX15_obeys__133 : decode cX15_obeys_ 133 = .ok (.iload_n 2, 1) := by decide +kernel
set_option maxRecDepth 20000 in
theorem dX15_obeys__134 : decode cX15_obeys_ 134 = .ok (.iload 7, 2) := by decide +kernel
set_option maxRecDepth 20000 in
theorem dX15_obeys__136 : decode cX15_obeys_ 136 = .ok (.iload 6, 2) := by decide +kernel
set_option maxRecDepth 20000 in
theorem dX15_obeys__138 : decode cX15_obeys_ 138 = .ok (.if_icmp .le 16, 3) := by decide +kernel
set_option maxRecDepth 20000 in
theorem dX15_obeys__141 : decode cX15_obeys_ 141 = .ok (.iload 7, 2) := by decide +kernel
set_option maxRecDepth 20000 in
theorem dX15_obeys__143 : decode cX15_obeys_ 143 = .ok (.iload 6, 2) := by decide +kernel
set_option maxRecDepth 20000 in
theorem dX15_obeys__145 : decode cX15_obeys_ 145 = .ok (.iload 4, 2) := by decide +kernel
set_option maxRecDepth 20000 in
theorem dX15_obeys__147 : decode cX15_obeys_ 147 = .ok (.iadd, 1) := by decide +kernel
set_option maxRecDepth 20000 in
theorem dX15_obeys__148 : decode cX15_obeys_ 148 = .ok (.invokestatic 282, 3) := by decide +kernel
set_option maxRecDepth 20000 in
theorem dX15_obeys__151 : decode cX15_obeys_ 151 = .ok (.goto 13, 3) := by decide +kernel
set_option maxRecDepth 20000 in
theorem dX15_obeys__154 : decode cX15_obeys_ 154 = .ok (.iload 7, 2) := by decide +kernel
set_option maxRecDepth 20000 in
theorem dX15_obeys__156 : decode cX15_obeys_ 156 = .ok (.iload 6, 2) := by decide +kernel
set_option maxRecDepth 20000 in
theorem dX15_obeys__158 : decode cX15_obeys_ 158 = .ok (.iload 4, 2) := by decide +kernel
set_option maxRecDepth 20000 in
theorem dX15_obeys__160 : decode cX15_obeys_ 160 = .ok (.isub, 1) := by decide +kernel
set_option maxRecDepth 20000 in
theorem dX15_obeys__161 : decode cX15_obeys_ 161 = .ok (.invokestatic 227, 3) := by decide +kernel
set_option maxRecDepth 20000 in
theorem dX15_obeys__164 : decode cX15_obeys_ 164 = .ok (.invokevirtual 164, 3) := by decide +kernel
set_option maxRecDepth 20000 in
theorem dX15_obeys__167 : decode cX15_obeys_ 167 = .ok (.return_, 1) := by decide +kernel
set_option maxRecDepth 20000 in
theorem dX15_obeys__168 : decode cX15_obeys_ 168 = .ok (.iload 5, 2) := by decide +kernel
set_option maxRecDepth 20000 in
theorem dX15_obeys__170 : decode cX15_obeys_ 170 = .ok (.ifCond .eq 51, 3) := by decide +kernel
set_option maxRecDepth 20000 in
theorem dX15_obeys__173 : decode cX15_obeys_ 173 = .ok (.aload_n 0, 1) := by decide +kernel
set_option maxRecDepth 20000 in
theorem dX15_obeys__174 : decode cX15_obeys_ 174 = .ok (.iconst 2, 1) := by decide +kernel
set_option maxRecDepth 20000 in
theorem dX15_obeys__175 : decode cX15_obeys_ 175 = .ok (.iload_n 3, 1) := by decide +kernel
set_option maxRecDepth 20000 in
theorem dX15_obeys__176 : decode cX15_obeys_ 176 = .ok (.iconst 1, 1) := by decide +kernel
set_option maxRecDepth 20000 in
theorem dX15_obeys__177 : decode cX15_obeys_ 177 = .ok (.invokevirtual 107, 3) := by decide +kernel
set_option maxRecDepth 20000 in
theorem dX15_obeys__180 : decode cX15_obeys_ 180 = .ok (.ifCond .eq 41, 3) := by decide +kernel
set_option maxRecDepth 20000 in
theorem dX15_obeys__183 : decode cX15_obeys_ 183 = .ok (.aload_n 0, 1) := by decide +kernel
set_option maxRecDepth 20000 in
theorem dX15_obeys__184 : decode cX15_obeys_ 184 = .ok (.iconst 1, 1) := by decide +kernel
set_option maxRecDepth 20000 in
theorem dX15_obeys__185 : decode cX15_obeys_ 185 = .ok (.iload 4, 2) := by decide +kernel
set_option maxRecDepth 20000 in
theorem dX15_obeys__187 : decode cX15_obeys_ 187 = .ok (.iconst 1, 1) := by decide +kernel
set_option maxRecDepth 20000 in
theorem dX15_obeys__188 : decode cX15_obeys_ 188 = .ok (.invokevirtual 107, 3) := by decide +kernel
set_option maxRecDepth 20000 in
theorem dX15_obeys__191 : decode cX15_obeys_ 191 = .ok (.ifCond .eq 30, 3) := by decide +kernel
set_option maxRecDepth 20000 in
theorem dX15_obeys__194 : decode cX15_obeys_ 194 = .ok (.aload_n 0, 1) := by decide +kernel
set_option maxRecDepth 20000 in
theorem dX15_obeys__195 : decode cX15_obeys_ 195 = .ok (.iconst 1, 1) := by decide +kernel
set_option maxRecDepth 20000 in
theorem dX15_obeys__196 : decode cX15_obeys_ 196 = .ok (.iload 4, 2) := by decide +kernel
set_option maxRecDepth 20000 in
theorem dX15_obeys__198 : decode cX15_obeys_ 198 = .ok (.aload_n 0, 1) := by decide +kernel
set_option maxRecDepth 20000 in
theorem dX15_obeys__199 : decode cX15_obeys_ 199 = .ok (.iconst 3, 1) := by decide +kernel
set_option maxRecDepth 20000 in
theorem dX15_obeys__200 : decode cX15_obeys_ 200 = .ok (.iload_n 2, 1) := by decide +kernel
set_option maxRecDepth 20000 in
theorem dX15_obeys__201 : decode cX15_obeys_ 201 = .ok (.invokevirtual 137, 3) := by decide +kernel
set_option maxRecDepth 20000 in
theorem dX15_obeys__204 : decode cX15_obeys_ 204 = .ok (.aload_n 0, 1) := by decide +kernel
set_option maxRecDepth 20000 in
theorem dX15_obeys__205 : decode cX15_obeys_ 205 = .ok (.iconst 2, 1) := by decide +kernel
set_option maxRecDepth 20000 in
theorem dX15_obeys__206 : decode cX15_obeys_ 206 = .ok (.iload_n 3, 1) := by decide +kernel
set_option maxRecDepth 20000 in
theorem dX15_obeys__207 : decode cX15_obeys_ 207 = .ok (.invokevirtual 137, 3) := by decide +kernel
set_option maxRecDepth 20000 in
theorem dX15_obeys__210 : decode cX15_obeys_ 210 = .ok (.if_icmp .le 7, 3) := by decide +kernel
set_option maxRecDepth 20000 in
theorem dX15_obeys__213 : decode cX15_obeys_ 213 = .ok (.iconst 1, 1) := by decide +kernel
set_option maxRecDepth 20000 in
theorem dX15_obeys__214 : decode cX15_obeys_ 214 = .ok (.goto 4, 3) := by decide +kernel
set_option maxRecDepth 20000 in
theorem dX15_obeys__217 : decode cX15_obeys_ 217 = .ok (.iconst 0, 1) := by decide +kernel
set_option maxRecDepth 20000 in
theorem dX15_obeys__218 : decode cX15_obeys_ 218 = .ok (.invokevirtual 164, 3) := by decide +kernel
set_option maxRecDepth 20000 in
theorem dX15_obeys__221 : decode cX15_obeys_ 221 = .ok (.return_, 1) := by decide +kernel
set_option maxRecDepth 20000 in
theorem dX15_obeys__222 : decode cX15_obeys_ 222 = .ok (.aload_n 0, 1) := by decide +kernel
set_option maxRecDepth 20000 in
theorem dX15_obeys__223 : decode cX15_obeys_ 223 = .ok (.iconst 1, 1) := by decide +kernel
set_option maxRecDepth 20000 in
theorem dX15_obeys__224 : decode cX15_obeys_ 224 = .ok (.iload_n 2, 1) := by decide +kernel
set_option maxRecDepth 20000 in
theorem dX15_obeys__225 : decode cX15_obeys_ 225 = .ok (.iconst 1, 1) := by decide +kernel
set_option maxRecDepth 20000 in
theorem dX15_obeys__226 : decode cX15_obeys_ 226 = .ok (.invokevirtual 107, 3) := by decide +kernel
set_option maxRecDepth 20000 in
theorem dX15_obeys__229 : decode cX15_obeys_ 229 = .ok (.ifCond .eq 30, 3) := by decide +kernel
set_option maxRecDepth 20000 in
theorem dX15_obeys__232 : decode cX15_obeys_ 232 = .ok (.aload_n 0, 1) := by decide +kernel
set_option maxRecDepth 20000 in
theorem dX15_obeys__233 : decode cX15_obeys_ 233 = .ok (.iconst 0, 1) := by decide +kernel
set_option maxRecDepth 20000 in
theorem dX15_obeys__234 : decode cX15_obeys_ 234 = .ok (.iload_n 3, 1) := by decide +kernel
set_option maxRecDepth 20000 in
theorem dX15_obeys__235 : decode cX15_obeys_ 235 = .ok (.iconst 1, 1) := by decide +kernel
set_option maxRecDepth 20000 in
theorem dX15_obeys__236 : decode cX15_obeys_ 236 = .ok (.invokevirtual 107, 3) := by decide +kernel
set_option maxRecDepth 20000 in
theorem dX15_obeys__239 : decode cX15_obeys_ 239 = .ok (.ifCond .eq 20, 3) := by decide +kernel
set_option maxRecDepth 20000 in
theorem dX15_obeys__242 : decode cX15_obeys_ 242 = .ok (.aload_n 0, 1) := by decide +kernel
set_option maxRecDepth 20000 in
theorem dX15_obeys__243 : decode cX15_obeys_ 243 = .ok (.iconst 1, 1) := by decide +kernel
set_option maxRecDepth 20000 in
theorem dX15_obeys__244 : decode cX15_obeys_ 244 = .ok (.iload_n 2, 1) := by decide +kernel
set_option maxRecDepth 20000 in
theorem dX15_obeys__245 : decode cX15_obeys_ 245 = .ok (.invokevirtual 137, 3) := by decide +kernel
set_option maxRecDepth 20000 in
theorem dX15_obeys__248 : decode cX15_obeys_ 248 = .ok (.iconst 1, 1) := by decide +kernel
set_option maxRecDepth 20000 in
theorem dX15_obeys__249 : decode cX15_obeys_ 249 = .ok (.if_icmp .ne 10, 3) := by decide +kernel
set_option maxRecDepth 20000 in
theorem dX15_obeys__252 : decode cX15_obeys_ 252 = .ok (.aload_n 0, 1) := by decide +kernel
set_option maxRecDepth 20000 in
theorem dX15_obeys__253 : decode cX15_obeys_ 253 = .ok (.iconst 0, 1) := by decide +kernel
set_option maxRecDepth 20000 in
theorem dX15_obeys__254 : decode cX15_obeys_ 254 = .ok (.iload_n 3, 1) := by decide +kernel
set_option maxRecDepth 20000 in
theorem dX15_obeys__255 : decode cX15_obeys_ 255 = .ok (.iconst 1, 1) := by decide +kernel
set_option maxRecDepth 20000 in
theorem dX15_obeys__256 : decode cX15_obeys_ 256 = .ok (.invokevirtual 164, 3) := by decide +kernel
set_option maxRecDepth 20000 in
theorem dX15_obeys__259 : decode cX15_obeys_ 259 = .ok (.return_, 1) := by decide +kernel
set_option maxRecDepth 20000 in
theorem dX15_obeys__260 : decode cX15_obeys_ 260 = .ok (.aload_n 0, 1) := by decide +kernel
set_option maxRecDepth 20000 in
theorem dX15_obeys__261 : decode cX15_obeys_ 261 = .ok (.iconst 0, 1) := by decide +kernel
set_option maxRecDepth 20000 in
theorem dX15_obeys__262 : decode cX15_obeys_ 262 = .ok (.iload_n 2, 1) := by decide +kernel
set_option maxRecDepth 20000 in
theorem dX15_obeys__263 : decode cX15_obeys_ 263 = .ok (.iconst 1, 1) := by decide +kernel
set_option maxRecDepth 20000 in
theorem dX15_obeys__264 : decode cX15_obeys_ 264 = .ok (.invokevirtual 107, 3) := by decide +kernel
set_option maxRecDepth 20000 in
theorem dX15_obeys__267 : decode cX15_obeys_ 267 = .ok (.ifCond .eq 37, 3) := by decide +kernel
set_option maxRecDepth 20000 in
theorem dX15_obeys__270 : decode cX15_obeys_ 270 = .ok (.aload_n 0, 1) := by decide +kernel
set_option maxRecDepth 20000 in
theorem dX15_obeys__271 : decode cX15_obeys_ 271 = .ok (.iconst 3, 1) := by decide +kernel
set_option maxRecDepth 20000 in
theorem dX15_obeys__272 : decode cX15_obeys_ 272 = .ok (.iload_n 3, 1) := by decide +kernel
set_option maxRecDepth 20000 in
theorem dX15_obeys__273 : decode cX15_obeys_ 273 = .ok (.iconst 1, 1) := by decide +kernel
set_option maxRecDepth 20000 in
theorem dX15_obeys__274 : decode cX15_obeys_ 274 = .ok (.invokevirtual 107, 3) := by decide +kernel
set_option maxRecDepth 20000 in
theorem dX15_obeys__277 : decode cX15_obeys_ 277 = .ok (.ifCond .eq 27, 3) := by decide +kernel
set_option maxRecDepth 20000 in
theorem dX15_obeys__280 : decode cX15_obeys_ 280 = .ok (.aload_n 0, 1) := by decide +kernel
set_option maxRecDepth 20000 in
theorem dX15_obeys__281 : decode cX15_obeys_ 281 = .ok (.iconst 0, 1) := by decide +kernel
set_option maxRecDepth 20000 in
theorem dX15_obeys__282 : decode cX15_obeys_ 282 = .ok (.iload_n 2, 1) := by decide +kernel
set_option maxRecDepth 20000 in
theorem dX15_obeys__283 : decode cX15_obeys_ 283 = .ok (.invokevirtual 137, 3) := by decide +kernel
set_option maxRecDepth 20000 in
theorem dX15_obeys__286 : decode cX15_obeys_ 286 = .ok (.iconst 1, 1) := by decide +kernel
set_option maxRecDepth 20000 in
theorem dX15_obeys__287 : decode cX15_obeys_ 287 = .ok (.if_icmp .ne 17, 3) := by decide +kernel
set_option maxRecDepth 20000 in
theorem dX15_obeys__290 : decode cX15_obeys_ 290 = .ok (.aload_n 0, 1) := by decide +kernel
set_option maxRecDepth 20000 in
theorem dX15_obeys__291 : decode cX15_obeys_ 291 = .ok (.iconst 0, 1) := by decide +kernel
set_option maxRecDepth 20000 in
theorem dX15_obeys__292 : decode cX15_obeys_ 292 = .ok (.iload_n 2, 1) := by decide +kernel
set_option maxRecDepth 20000 in
theorem dX15_obeys__293 : decode cX15_obeys_ 293 = .ok (.iconst 0, 1) := by decide +kernel
set_option maxRecDepth 20000 in
theorem dX15_obeys__294 : decode cX15_obeys_ 294 = .ok (.invokevirtual 164, 3) := by decide +kernel
set_option maxRecDepth 20000 in
theorem dX15_obeys__297 : decode cX15_obeys_ 297 = .ok (.aload_n 0, 1) := by decide +kernel
set_option maxRecDepth 20000 in
theorem dX15_obeys__298 : decode cX15_obeys_ 298 = .ok (.iconst 3, 1) := by decide +kernel
set_option maxRecDepth 20000 in
theorem dX15_obeys__299 : decode cX15_obeys_ 299 = .ok (.iload_n 3, 1) := by decide +kernel
set_option maxRecDepth 20000 in
theorem dX15_obeys__300 : decode cX15_obeys_ 300 = .ok (.iconst 0, 1) := by decide +kernel
set_option maxRecDepth 20000 in
theorem dX15_obeys__301 : decode cX15_obeys_ 301 = .ok (.invokevirtual 164, 3) := by decide +kernel
set_option maxRecDepth 20000 in
theorem dX15_obeys__304 : decode cX15_obeys_ 304 = .ok (.return_, 1) := by decide +kernel
set_option maxRecDepth 20000 in
theorem dX15_obeys__305 : decode cX15_obeys_ 305 = .ok (.aload_n 0, 1) := by decide +kernel
set_option maxRecDepth 20000 in
theorem dX15_obeys__306 : decode cX15_obeys_ 306 = .ok (.iload_n 3, 1) := by decide +kernel
set_option maxRecDepth 20000 in
theorem dX15_obeys__307 : decode cX15_obeys_ 307 = .ok (.invokevirtual 127, 3) := by decide +kernel
set_option maxRecDepth 20000 in
theorem dX15_obeys__310 : decode cX15_obeys_ 310 = .ok (.istore 6, 2) := by decide +kernel
set_option maxRecDepth 20000 in
theorem dX15_obeys__312 : decode cX15_obeys_ 312 = .ok (.iload 5, 2) := by decide +kernel
set_option maxRecDepth 20000 in
theorem dX15_obeys__314 : decode cX15_obeys_ 314 = .ok (.ifCond .eq 43, 3) := by decide +kernel
set_option maxRecDepth 20000 in
theorem dX15_obeys__317 : decode cX15_obeys_ 317 = .ok (.iload 6, 2) := by decide +kernel
set_option maxRecDepth 20000 in
theorem dX15_obeys__319 : decode cX15_obeys_ 319 = .ok (.iconst (-1), 1) := by decide +kernel
set_option maxRecDepth 20000 in
theorem dX15_obeys__320 : decode cX15_obeys_ 320 = .ok (.if_icmp .eq 37, 3) := by decide +kernel
set_option maxRecDepth 20000 in
theorem dX15_obeys__323 : decode cX15_obeys_ 323 = .ok (.aload_n 0, 1) := by decide +kernel
set_option maxRecDepth 20000 in
theorem dX15_obeys__324 : decode cX15_obeys_ 324 = .ok (.iconst 0, 1) := by decide +kernel
set_option maxRecDepth 20000 in
theorem dX15_obeys__325 : decode cX15_obeys_ 325 = .ok (.iload 4, 2) := by decide +kernel
set_option maxRecDepth 20000 in
theorem dX15_obeys__327 : decode cX15_obeys_ 327 = .ok (.iconst 1, 1) := by decide +kernel
set_option maxRecDepth 20000 in
theorem dX15_obeys__328 : decode cX15_obeys_ 328 = .ok (.invokevirtual 107, 3) := by decide +kernel
set_option maxRecDepth 20000 in
theorem dX15_obeys__331 : decode cX15_obeys_ 331 = .ok (.ifCond .eq 26, 3) := by decide +kernel
set_option maxRecDepth 20000 in
theorem dX15_obeys__334 : decode cX15_obeys_ 334 = .ok (.aload_n 0, 1) := by decide +kernel
set_option maxRecDepth 20000 in
theorem dX15_obeys__335 : decode cX15_obeys_ 335 = .ok (.iconst 0, 1) := by decide +kernel
set_option maxRecDepth 20000 in
theorem dX15_obeys__336 : decode cX15_obeys_ 336 = .ok (.iload 4, 2) := by decide +kernel
set_option maxRecDepth 20000 in
theorem dX15_obeys__338 : decode cX15_obeys_ 338 = .ok (.invokevirtual 137, 3) := by decide +kernel
set_option maxRecDepth 20000 in
theorem dX15_obeys__341 : decode cX15_obeys_ 341 = .ok (.iconst 1, 1) := by decide +kernel
set_option maxRecDepth 20000 in
theorem dX15_obeys__342 : decode cX15_obeys_ 342 = .ok (.if_icmp .ne 15, 3) := by decide +kernel
set_option maxRecDepth 20000 in
theorem dX15_obeys__345 : decode cX15_obeys_ 345 = .ok (.aload_n 0, 1) := by decide +kernel
set_option maxRecDepth 20000 in
theorem dX15_obeys__346 : decode cX15_obeys_ 346 = .ok (.iload 6, 2) := by decide +kernel
set_option maxRecDepth 20000 in
theorem dX15_obeys__348 : decode cX15_obeys_ 348 = .ok (.aload_n 0, 1) := by decide +kernel
set_option maxRecDepth 20000 in
theorem dX15_obeys__349 : decode cX15_obeys_ 349 = .ok (.iconst 3, 1) := by decide +kernel
set_option maxRecDepth 20000 in
theorem dX15_obeys__350 : decode cX15_obeys_ 350 = .ok (.iload_n 2, 1) := by decide +kernel
set_option maxRecDepth 20000 in
theorem dX15_obeys__351 : decode cX15_obeys_ 351 = .ok (.invokevirtual 137, 3) := by decide +kernel
set_option maxRecDepth 20000 in
theorem dX15_obeys__354 : decode cX15_obeys_ 354 = .ok (.invokevirtual 285, 3) := by decide +kernel
set_option maxRecDepth 20000 in
theorem dX15_obeys__357 : decode cX15_obeys_ 357 = .ok (.return_, 1) := by decide +kernel
set_option maxRecDepth 20000 in
theorem dX15_newRequest_0 : decode cX15_newRequest 0 = .ok (.aload_n 0, 1) := by decide +kernel
set_option maxRecDepth 20000 in
theorem dX15_newRequest_1 : decode cX15_newRequest 1 = .ok (.getfield 44, 3) := by decide +kernel
set_option maxRecDepth 20000 in
theorem dX15_newRequest_4 : decode cX15_newRequest 4 = .ok (.aload_n 2, 1) := by decide +kernel
set_option maxRecDepth 20000 in
theorem dX15_newRequest_5 : decode cX15_newRequest 5 = .ok (.iconst 0, 1) := by decide +kernel
set_option maxRecDepth 20000 in
theorem dX15_newRequest_6 : decode cX15_newRequest 6 = .ok (.iload_n 3, 1) := by decide +kernel
set_option maxRecDepth 20000 in
theorem dX15_newRequest_7 : decode cX15_newRequest 7 = .ok (.invokevirtual 288, 3) := by decide +kernel
set_option maxRecDepth 20000 in
theorem dX15_newRequest_10 : decode cX15_newRequest 10 = .ok (.istore 4, 2) := by decide +kernel
set_option maxRecDepth 20000 in
theorem dX15_newRequest_12 : decode cX15_newRequest 12 = .ok (.aload_n 0, 1) := by decide +kernel
set_option maxRecDepth 20000 in
theorem dX15_newRequest_13 : decode cX15_newRequest 13 = .ok (.getfield 44, 3) := by decide +kernel
set_option maxRecDepth 20000 in
theorem dX15_newRequest_16 : decode cX15_newRequest 16 = .ok (.getfield 292, 3) := by decide +kernel
set_option maxRecDepth 20000 in
theorem dX15_newRequest_19 : decode cX15_newRequest 19 = .ok (.iload 4, 2) := by decide +kernel
set_option maxRecDepth 20000 in
theorem dX15_newRequest_21 : decode cX15_newRequest 21 = .ok (.aaload, 1) := by decide +kernel
set_option maxRecDepth 20000 in
theorem dX15_newRequest_22 : decode cX15_newRequest 22 = .ok (.iconst 0, 1) := by decide +kernel
set_option maxRecDepth 20000 in
theorem dX15_newRequest_23 : decode cX15_newRequest 23 = .ok (.iload_n 1, 1) := by decide +kernel
set_option maxRecDepth 20000 in
theorem dX15_newRequest_24 : decode cX15_newRequest 24 = .ok (.iastore, 1) := by decide +kernel
set_option maxRecDepth 20000 in
theorem dX15_newRequest_25 : decode cX15_newRequest 25 = .ok (.aload_n 0, 1) := by decide +kernel
set_option maxRecDepth 20000 in
theorem dX15_newRequest_26 : decode cX15_newRequest 26 = .ok (.getfield 44, 3) := by decide +kernel
set_option maxRecDepth 20000 in
theorem dX15_newRequest_29 : decode cX15_newRequest 29 = .ok (.getfield 292, 3) := by decide +kernel
set_option maxRecDepth 20000 in
theorem dX15_newRequest_32 : decode cX15_newRequest 32 = .ok (.iload 4, 2) := by decide +kernel
set_option maxRecDepth 20000 in
theorem dX15_newRequest_34 : decode cX15_newRequest 34 = .ok (.aaload, 1) := by decide +kernel
set_option maxRecDepth 20000 in
theorem dX15_newRequest_35 : decode cX15_newRequest 35 = .ok (.iconst 1, 1) := by decide +kernel
set_option maxRecDepth 20000 in
theorem dX15_newRequest_36 : decode cX15_newRequest 36 = .ok (.aload_n 0, 1) := by decide +kernel
set_option maxRecDepth 20000 in
theorem dX15_newRequest_37 : decode cX15_newRequest 37 = .ok (.getfield 295, 3) := by decide +kernel
set_option maxRecDepth 20000 in
theorem dX15_newRequest_40 : decode cX15_newRequest 40 = .ok (.iastore, 1) := by decide +kernel
set_option maxRecDepth 20000 in
theorem dX15_newRequest_41 : decode cX15_newRequest 41 = .ok (.aload_n 0, 1) := by decide +kernel
set_option maxRecDepth 20000 in
theorem dX15_newRequest_42 : decode cX15_newRequest 42 = .ok (.getfield 44, 3) := by decide +kernel
set_option maxRecDepth 20000 in
theorem dX15_newRequest_45 : decode cX15_newRequest 45 = .ok (.getfield 292, 3) := by decide +kernel
set_option maxRecDepth 20000 in
theorem dX15_newRequest_48 : decode cX15_newRequest 48 = .ok (.iload 4, 2) := by decide +kernel
set_option maxRecDepth 20000 in
theorem dX15_newRequest_50 : decode cX15_newRequest 50 = .ok (.aaload, 1) := by decide +kernel
set_option maxRecDepth 20000 in
theorem dX15_newRequest_51 : decode cX15_newRequest 51 = .ok (.iconst 2, 1) := by decide +kernel
set_option maxRecDepth 20000 in
theorem dX15_newRequest_52 : decode cX15_newRequest 52 = .ok (.iconst 0, 1) := by decide +kernel
set_option maxRecDepth 20000 in
theorem dX15_newRequest_53 : decode cX15_newRequest 53 = .ok (.iastore, 1) := by decide +kernel
set_option maxRecDepth 20000 in
theorem dX15_newRequest_54 : decode cX15_newRequest 54 = .ok (.aload_n 0, 1) := by decide +kernel
set_option maxRecDepth 20000 in
theorem dX15_newRequest_55 : decode cX15_newRequest 55 = .ok (.dup, 1) := by decide +kernel
set_option maxRecDepth 20000 in
theorem dX15_newRequest_56 : decode cX15_newRequest 56 = .ok (.getfield 295, 3) := by decide +kernel
set_option maxRecDepth 20000 in
theorem dX15_newRequest_59 : decode cX15_newRequest 59 = .ok (.iconst 1, 1) := by decide +kernel
set_option maxRecDepth 20000 in
theorem dX15_newRequest_60 : decode cX15_newRequest 60 = .ok (.iadd, 1) := by decide +kernel
set_option maxRecDepth 20000 in
theorem dX15_newRequest_61 : decode cX15_newRequest 61 = .ok (.putfield 295, 3) := by decide +kernel
set_option maxRecDepth 20000 in
theorem dX15_newRequest_64 : decode cX15_newRequest 64 = .ok (.aload_n 0, 1) := by decide +kernel
set_option maxRecDepth 20000 in
theorem dX15_newRequest_65 : decode cX15_newRequest 65 = .ok (.getfield 295, 3) := by decide +kernel
set_option maxRecDepth 20000 in
theorem dX15_newRequest_68 : decode cX15_newRequest 68 = .ok (.iconst 1, 1) := by decide +kernel
set_option maxRecDepth 20000 in
theorem dX15_newRequest_69 : decode cX15_newRequest 69 = .ok (.isub, 1) := by decide +kernel
set_option maxRecDepth 20000 in
theorem dX15_newRequest_70 : decode cX15_newRequest 70 = .ok (.ireturn, 1) := by decide +kernel
set_option maxRecDepth 20000 in
theorem dX15_through_0 : decode cX15_through 0 = .ok (.aload_n 0, 1) := by decide +kernel
set_option maxRecDepth 20000 in
theorem dX15_through_1 : decode cX15_through 1 = .ok (.getfield 44, 3) := by decide +kernel
set_option maxRecDepth 20000 in
theorem dX15_through_4 : decode cX15_through 4 = .ok (.getfield 292, 3) := by decide +kernel
set_option maxRecDepth 20000 in
theorem dX15_through_7 : decode cX15_through 7 = .ok (.iconst 0, 1) := by decide +kernel
set_option maxRecDepth 20000 in
theorem dX15_through_8 : decode cX15_through 8 = .ok (.aaload, 1) := by decide +kernel
set_option maxRecDepth 20000 in
theorem dX15_through_9 : decode cX15_through 9 = .ok (.astore 5, 2) := by decide +kernel
set_option maxRecDepth 20000 in
theorem dX15_through_11 : decode cX15_through 11 = .ok (.aload_n 0, 1) := by decide +kernel
set_option maxRecDepth 20000 in
theorem dX15_through_12 : decode cX15_through 12 = .ok (.getfield 48, 3) := by decide +kernel
set_option maxRecDepth 20000 in
theorem dX15_through_15 : decode cX15_through 15 = .ok (.getfield 298, 3) := by decide +kernel
set_option maxRecDepth 20000 in
theorem dX15_through_18 : decode cX15_through 18 = .ok (.bipush 32, 2) := by decide +kernel
set_option maxRecDepth 20000 in
theorem dX15_through_20 : decode cX15_through 20 = .ok (.if_icmp .ne 16, 3) := by decide +kernel
set_option maxRecDepth 20000 in
theorem dX15_through_23 : decode cX15_through 23 = .ok (.aload_n 0, 1) := by decide +kernel
set_option maxRecDepth 20000 in
theorem dX15_through_24 : decode cX15_through 24 = .ok (.dup, 1) := by decide +kernel
set_option maxRecDepth 20000 in
theorem dX15_through_25 : decode cX15_through 25 = .ok (.getfield 299, 3) := by decide +kernel
set_option maxRecDepth 20000 in
theorem dX15_through_28 : decode cX15_through 28 = .ok (.iconst 1, 1) := by decide +kernel
set_option maxRecDepth 20000 in
theorem dX15_through_29 : decode cX15_through 29 = .ok (.iadd, 1) := by decide +kernel
set_option maxRecDepth 20000 in
theorem dX15_through_30 : decode cX15_through 30 = .ok (.putfield 299, 3) := by decide +kernel
set_option maxRecDepth 20000 in
theorem dX15_through_33 : decode cX15_through 33 = .ok (.goto 96, 3) := by decide +kernel
set_option maxRecDepth 20000 in
theorem dX15_through_36 : decode cX15_through 36 = .ok (.aload_n 0, 1) := by decide +kernel
set_option maxRecDepth 20000 in
theorem dX15_through_37 : decode cX15_through 37 = .ok (.getfield 48, 3) := by decide +kernel
set_option maxRecDepth 20000 in
theorem dX15_through_40 : decode cX15_through 40 = .ok (.aload_n 0, 1) := by decide +kernel
set_option maxRecDepth 20000 in
theorem dX15_through_41 : decode cX15_through 41 = .ok (.getfield 25, 3) := by decide +kernel
set_option maxRecDepth 20000 in
theorem dX15_through_44 : decode cX15_through 44 = .ok (.getfield 302, 3) := by decide +kernel
set_option maxRecDepth 20000 in
theorem dX15_through_47 : decode cX15_through 47 = .ok (.iload_n 3, 1) := by decide +kernel
set_option maxRecDepth 20000 in
theorem dX15_through_48 : decode cX15_through 48 = .ok (.iload 4, 2) := by decide +kernel
set_option maxRecDepth 20000 in
theorem dX15_through_50 : decode cX15_through 50 = .ok (.invokevirtual 288, 3) := by decide +kernel
set_option maxRecDepth 20000 in
theorem dX15_through_53 : decode cX15_through 53 = .ok (.istore 6, 2) := by decide +kernel
set_option maxRecDepth 20000 in
theorem dX15_through_55 : decode cX15_through 55 = .ok (.aload_n 0, 1) := by decide +kernel
set_option maxRecDepth 20000 in
theorem dX15_through_56 : decode cX15_through 56 = .ok (.getfield 48, 3) := by decide +kernel
set_option maxRecDepth 20000 in
theorem dX15_through_59 : decode cX15_through 59 = .ok (.getfield 292, 3) := by decide +kernel
set_option maxRecDepth 20000 in
theorem dX15_through_62 : decode cX15_through 62 = .ok (.iload 6, 2) := by decide +kernel
set_option maxRecDepth 20000 in
theorem dX15_through_64 : decode cX15_through 64 = .ok (.aaload, 1) := by decide +kernel
set_option maxRecDepth 20000 in
theorem dX15_through_65 : decode cX15_through 65 = .ok (.iconst 0, 1) := by decide +kernel
set_option maxRecDepth 20000 in
theorem dX15_through_66 : decode cX15_through 66 = .ok (.aload 5, 2) := by decide +kernel
set_option maxRecDepth 20000 in
theorem dX15_through_68 : decode cX15_through 68 = .ok (.iconst 1, 1) := by decide +kernel
set_option maxRecDepth 20000 in
theorem dX15_through_69 : decode cX15_through 69 = .ok (.iaload, 1) := by decide +kernel
set_option maxRecDepth 20000 in
theorem dX15_through_70 : decode cX15_through 70 = .ok (.iastore, 1) := by decide +kernel
set_option maxRecDepth 20000 in
theorem dX15_through_71 : decode cX15_through 71 = .ok (.aload_n 0, 1) := by decide +kernel
set_option maxRecDepth 20000 in
theorem dX15_through_72 : decode cX15_through 72 = .ok (.getfield 48, 3) := by decide +kernel
set_option maxRecDepth 20000 in
theorem dX15_through_75 : decode cX15_through 75 = .ok (.getfield 292, 3) := by decide +kernel
set_option maxRecDepth 20000 in
theorem dX15_through_78 : decode cX15_through 78 = .ok (.iload 6, 2) := by decide +kernel
set_option maxRecDepth 20000 in
theorem dX15_through_80 : decode cX15_through 80 = .ok (.aaload, 1) := by decide +kernel
set_option maxRecDepth 20000 in
theorem dX15_through_81 : decode cX15_through 81 = .ok (.iconst 1, 1) := by decide +kernel
set_option maxRecDepth 20000 in
theorem dX15_through_82 : decode cX15_through 82 = .ok (.iload_n 1, 1) := by decide +kernel
set_option maxRecDepth 20000 in
theorem dX15_through_83 : decode cX15_through 83 = .ok (.iastore, 1) := by decide +kernel
set_option maxRecDepth 20000 in
theorem dX15_through_84 : decode cX15_through 84 = .ok (.aload_n 0, 1) := by decide +kernel
set_option maxRecDepth 20000 in
theorem dX15_through_85 : decode cX15_through 85 = .ok (.getfield 48, 3) := by decide +kernel
set_option maxRecDepth 20000 in
theorem dX15_through_88 : decode cX15_through 88 = .ok (.getfield 292, 3) := by decide +kernel
set_option maxRecDepth 20000 in
theorem dX15_through_91 : decode cX15_through 91 = .ok (.iload 6, 2) := by decide +kernel
set_option maxRecDepth 20000 in
theorem dX15_through_93 : decode cX15_through 93 = .ok (.aaload, 1) := by decide +kernel
set_option maxRecDepth 20000 in
theorem dX15_through_94 : decode cX15_through 94 = .ok (.iconst 2, 1) := by decide +kernel
set_option maxRecDepth 20000 in
theorem dX15_through_95 : decode cX15_through 95 = .ok (.iload_n 2, 1) := by decide +kernel
set_option maxRecDepth 20000 in
theorem dX15_through_96 : decode cX15_through 96 = .ok (.iastore, 1) := by decide +kernel
set_option maxRecDepth 20000 in
theorem dX15_through_97 : decode cX15_through 97 = .ok (.aload_n 0, 1) := by decide +kernel
set_option maxRecDepth 20000 in
theorem dX15_through_98 : decode cX15_through 98 = .ok (.getfield 48, 3) := by decide +kernel
set_option maxRecDepth 20000 in
theorem dX15_through_101 : decode cX15_through 101 = .ok (.getfield 292, 3) := by decide +kernel
set_option maxRecDepth 20000 in
theorem dX15_through_104 : decode cX15_through 104 = .ok (.iload 6, 2) := by decide +kernel
set_option maxRecDepth 20000 in
theorem dX15_through_106 : decode cX15_through 106 = .ok (.aaload, 1) := by decide +kernel
set_option maxRecDepth 20000 in
theorem dX15_through_107 : decode cX15_through 107 = .ok (.iconst 3, 1) := by decide +kernel
set_option maxRecDepth 20000 in
theorem dX15_through_108 : decode cX15_through 108 = .ok (.aload 5, 2) := by decide +kernel
set_option maxRecDepth 20000 in
theorem dX15_through_110 : decode cX15_through 110 = .ok (.iconst 2, 1) := by decide +kernel
set_option maxRecDepth 20000 in
theorem dX15_through_111 : decode cX15_through 111 = .ok (.iaload, 1) := by decide +kernel
set_option maxRecDepth 20000 in
theorem dX15_through_112 : decode cX15_through 112 = .ok (.iastore, 1) := by decide +kernel
set_option maxRecDepth 20000 in
theorem dX15_through_113 : decode cX15_through 113 = .ok (.aload_n 0, 1) := by decide +kernel
set_option maxRecDepth 20000 in
theorem dX15_through_114 : decode cX15_through 114 = .ok (.getfield 48, 3) := by decide +kernel
set_option maxRecDepth 20000 in
theorem dX15_through_117 : decode cX15_through 117 = .ok (.getfield 292, 3) := by decide +kernel
set_option maxRecDepth 20000 in
theorem dX15_through_120 : decode cX15_through 120 = .ok (.iload 6, 2) := by decide +kernel
set_option maxRecDepth 20000 in
theorem dX15_through_122 : decode cX15_through 122 = .ok (.aaload, 1) := by decide +kernel
set_option maxRecDepth 20000 in
theorem dX15_through_123 : decode cX15_through 123 = .ok (.iconst 4, 1) := by decide +kernel
set_option maxRecDepth 20000 in
theorem dX15_through_124 : decode cX15_through 124 = .ok (.aload 5, 2) := by decide +kernel
set_option maxRecDepth 20000 in
theorem dX15_through_126 : decode cX15_through 126 = .ok (.iconst 0, 1) := by decide +kernel
set_option maxRecDepth 20000 in
theorem dX15_through_127 : decode cX15_through 127 = .ok (.iaload, 1) := by decide +kernel
set_option maxRecDepth 20000 in
theorem dX15_through_128 : decode cX15_through 128 = .ok (.iastore, 1) := by decide +kernel
set_option maxRecDepth 20000 in
theorem dX15_through_129 : decode cX15_through 129 = .ok (.aload_n 0, 1) := by decide +kernel
set_option maxRecDepth 20000 in
theorem dX15_through_130 : decode cX15_through 130 = .ok (.getfield 44, 3) := by decide +kernel
set_option maxRecDepth 20000 in
theorem dX15_through_133 : decode cX15_through 133 = .ok (.invokevirtual 303, 3) := by decide +kernel
set_option maxRecDepth 20000 in
theorem dX15_through_136 : decode cX15_through 136 = .ok (.aload_n 0, 1) := by decide +kernel
set_option maxRecDepth 20000 in
theorem dX15_through_137 : decode cX15_through 137 = .ok (.iconst 0, 1) := by decide +kernel
set_option maxRecDepth 20000 in
theorem dX15_through_138 : decode cX15_through 138 = .ok (.putfield 306, 3) := by decide +kernel
set_option maxRecDepth 20000 in
theorem dX15_through_141 : decode cX15_through 141 = .ok (.return_, 1) := by decide +kernel
set_option maxRecDepth 20000 in
theorem dX15_fails_0 : decode cX15_fails 0 = .ok (.aload_n 0, 1) := by decide +kernel
set_option maxRecDepth 20000 in
theorem dX15_fails_1 : decode cX15_fails 1 = .ok (.iconst 0, 1) := by decide +kernel
set_option maxRecDepth 20000 in
theorem dX15_fails_2 : decode cX15_fails 2 = .ok (.putfield 306, 3) := by decide +kernel
set_option maxRecDepth 20000 in
theorem dX15_fails_5 : decode cX15_fails 5 = .ok (.aload_n 0, 1) := by decide +kernel
set_option maxRecDepth 20000 in
theorem dX15_fails_6 : decode cX15_fails 6 = .ok (.getfield 44, 3) := by decide +kernel
set_option maxRecDepth 20000 in
theorem dX15_fails_9 : decode cX15_fails 9 = .ok (.getfield 292, 3) := by decide +kernel
set_option maxRecDepth 20000 in
theorem dX15_fails_12 : decode cX15_fails 12 = .ok (.iconst 0, 1) := by decide +kernel
set_option maxRecDepth 20000 in
theorem dX15_fails_13 : decode cX15_fails 13 = .ok (.aaload, 1) := by decide +kernel
set_option maxRecDepth 20000 in
theorem dX15_fails_14 : decode cX15_fails 14 = .ok (.iconst 2, 1) := by decide +kernel
set_option maxRecDepth 20000 in
theorem dX15_fails_15 : decode cX15_fails 15 = .ok (.iaload, 1) := by decide +kernel
set_option maxRecDepth 20000 in
theorem dX15_fails_16 : decode cX15_fails 16 = .ok (.aload_n 0, 1) := by decide +kernel
set_option maxRecDepth 20000 in
theorem dX15_fails_17 : decode cX15_fails 17 = .ok (.getfield 29, 3) := by decide +kernel
set_option maxRecDepth 20000 in
theorem dX15_fails_20 : decode cX15_fails 20 = .ok (.if_icmp .lt 11, 3) := by decide +kernel
set_option maxRecDepth 20000 in
theorem dX15_fails_23 : decode cX15_fails 23 = .ok (.aload_n 0, 1) := by decide +kernel
set_option maxRecDepth 20000 in
theorem dX15_fails_24 : decode cX15_fails 24 = .ok (.iconst 2, 1) := by decide +kernel
set_option maxRecDepth 20000 in
theorem dX15_fails_25 : decode cX15_fails 25 = .ok (.iload_n 1, 1) := by decide +kernel
set_option maxRecDepth 20000 in
theorem dX15_fails_26 : decode cX15_fails 26 = .ok (.iconst 0, 1) := by decide +kernel
set_option maxRecDepth 20000 in
theorem dX15_fails_27 : decode cX15_fails 27 = .ok (.iconst 0, 1) := by decide +kernel
set_option maxRecDepth 20000 in
theorem dX15_fails_28 : decode cX15_fails 28 = .ok (.invokevirtual 309, 3) := by decide +kernel
set_option maxRecDepth 20000 in
theorem dX15_fails_31 : decode cX15_fails 31 = .ok (.return_, 1) := by decide +kernel
set_option maxRecDepth 20000 in
theorem dX15_looksMaster_0 : decode cX15_looksMaster 0 = .ok (.aload_n 0, 1) := by decide +kernel
set_option maxRecDepth 20000 in
theorem dX15_looksMaster_1 : decode cX15_looksMaster 1 = .ok (.getfield 306, 3) := by decide +kernel
set_option maxRecDepth 20000 in
theorem dX15_looksMaster_4 : decode cX15_looksMaster 4 = .ok (.iconst 2, 1) := by decide +kernel
set_option maxRecDepth 20000 in
theorem dX15_looksMaster_5 : decode cX15_looksMaster 5 = .ok (.if_icmp .ne 17, 3) := by decide +kernel
set_option maxRecDepth 20000 in
theorem dX15_looksMaster_8 : decode cX15_looksMaster 8 = .ok (.aload_n 0, 1) := by decide +kernel
set_option maxRecDepth 20000 in
theorem dX15_looksMaster_9 : decode cX15_looksMaster 9 = .ok (.getfield 44, 3) := by decide +kernel
set_option maxRecDepth 20000 in
theorem dX15_looksMaster_12 : decode cX15_looksMaster 12 = .ok (.getfield 292, 3) := by decide +kernel
set_option maxRecDepth 20000 in
theorem dX15_looksMaster_15 : decode cX15_looksMaster 15 = .ok (.iconst 0, 1) := by decide +kernel
set_option maxRecDepth 20000 in
theorem dX15_looksMaster_16 : decode cX15_looksMaster 16 = .ok (.aaload, 1) := by decide +kernel
set_option maxRecDepth 20000 in
theorem dX15_looksMaster_17 : decode cX15_looksMaster 17 = .ok (.iconst 0, 1) := by decide +kernel
set_option maxRecDepth 20000 in
theorem dX15_looksMaster_18 : decode cX15_looksMaster 18 = .ok (.iaload, 1) := by decide +kernel
set_option maxRecDepth 20000 in
theorem dX15_looksMaster_19 : decode cX15_looksMaster 19 = .ok (.ifCond .ne 14, 3) := by decide +kernel
set_option maxRecDepth 20000 in
theorem dX15_looksMaster_22 : decode cX15_looksMaster 22 = .ok (.aload_n 0, 1) := by decide +kernel
set_option maxRecDepth 20000 in
theorem dX15_looksMaster_23 : decode cX15_looksMaster 23 = .ok (.dup, 1) := by decide +kernel
set_option maxRecDepth 20000 in
theorem dX15_looksMaster_24 : decode cX15_looksMaster 24 = .ok (.getfield 313, 3) := by decide +kernel
set_option maxRecDepth 20000 in
theorem dX15_looksMaster_27 : decode cX15_looksMaster 27 = .ok (.iconst 1, 1) := by decide +kernel
set_option maxRecDepth 20000 in
theorem dX15_looksMaster_28 : decode cX15_looksMaster 28 = .ok (.iadd, 1) := by decide +kernel
set_option maxRecDepth 20000 in
theorem dX15_looksMaster_29 : decode cX15_looksMaster 29 = .ok (.putfield 313, 3) := by decide +kernel
set_option maxRecDepth 20000 in
theorem dX15_looksMaster_32 : decode cX15_looksMaster 32 = .ok (.return_, 1) := by decide +kernel
set_option maxRecDepth 20000 in
theorem dX15_looksMaster_33 : decode cX15_looksMaster 33 = .ok (.aload_n 0, 1) := by decide +kernel
set_option maxRecDepth 20000 in
theorem dX15_looksMaster_34 : decode cX15_looksMaster 34 = .ok (.getfield 25, 3) := by decide +kernel
set_option maxRecDepth 20000 in
theorem dX15_looksMaster_37 : decode cX15_looksMaster 37 = .ok (.invokevirtual 316, 3) := by decide +kernel
set_option maxRecDepth 20000 in
theorem dX15_looksMaster_40 : decode cX15_looksMaster 40 = .ok (.ifCond .ne 9, 3) := by decide +kernel
set_option maxRecDepth 20000 in
theorem dX15_looksMaster_43 : decode cX15_looksMaster 43 = .ok (.aload_n 0, 1) := by decide +kernel
set_option maxRecDepth 20000 in
theorem dX15_looksMaster_44 : decode cX15_looksMaster 44 = .ok (.iconst 2, 1) := by decide +kernel
set_option maxRecDepth 20000 in
theorem dX15_looksMaster_45 : decode cX15_looksMaster 45 = .ok (.invokevirtual 317, 3) := by decide +kernel
set_option maxRecDepth 20000 in
theorem dX15_looksMaster_48 : decode cX15_looksMaster 48 = .ok (.return_, 1) := by decide +kernel
set_option maxRecDepth 20000 in
theorem dX15_looksMaster_49 : decode cX15_looksMaster 49 = .ok (.aload_n 0, 1) := by decide +kernel
set_option maxRecDepth 20000 in
theorem dX15_looksMaster_50 : decode cX15_looksMaster 50 = .ok (.getfield 25, 3) := by decide +kernel
set_option maxRecDepth 20000 in
theorem dX15_looksMaster_53 : decode cX15_looksMaster 53 = .ok (.getfield 302, 3) := by decide +kernel
set_option maxRecDepth 20000 in
theorem dX15_looksMaster_56 : decode cX15_looksMaster 56 = .ok (.iconst 0, 1) := by decide +kernel
set_option maxRecDepth 20000 in
theorem dX15_looksMaster_57 : decode cX15_looksMaster 57 = .ok (.iaload, 1) := by decide +kernel
set_option maxRecDepth 20000 in
theorem dX15_looksMaster_58 : decode cX15_looksMaster 58 = .ok (.aload_n 0, 1) := by decide +kernel
set_option maxRecDepth 20000 in
theorem dX15_looksMaster_59 : decode cX15_looksMaster 59 = .ok (.getfield 44, 3) := by decide +kernel
set_option maxRecDepth 20000 in
theorem dX15_looksMaster_62 : decode cX15_looksMaster 62 = .ok (.getfield 292, 3) := by decide +kernel
set_option maxRecDepth 20000 in
theorem dX15_looksMaster_65 : decode cX15_looksMaster 65 = .ok (.iconst 0, 1) := by decide +kernel
set_option maxRecDepth 20000 in
theorem dX15_looksMaster_66 : decode cX15_looksMaster 66 = .ok (.aaload, 1) := by decide +kernel
set_option maxRecDepth 20000 in
theorem dX15_looksMaster_67 : decode cX15_looksMaster 67 = .ok (.iconst 0, 1) := by decide +kernel
set_option maxRecDepth 20000 in
theorem dX15_looksMaster_68 : decode cX15_looksMaster 68 = .ok (.iaload, 1) := by decide +kernel
set_option maxRecDepth 20000 in
theorem dX15_looksMaster_69 : decode cX15_looksMaster 69 = .ok (.if_icmp .eq 14, 3) := by decide +kernel
set_option maxRecDepth 20000 in
theorem dX15_looksMaster_72 : decode cX15_looksMaster 72 = .ok (.aload_n 0, 1) := by decide +kernel
set_option maxRecDepth 20000 in
theorem dX15_looksMaster_73 : decode cX15_looksMaster 73 = .ok (.dup, 1) := by decide +kernel
set_option maxRecDepth 20000 in
theorem dX15_looksMaster_74 : decode cX15_looksMaster 74 = .ok (.getfield 313, 3) := by decide +kernel
set_option maxRecDepth 20000 in
theorem dX15_looksMaster_77 : decode cX15_looksMaster 77 = .ok (.iconst 1, 1) := by decide +kernel
set_option maxRecDepth 20000 in
theorem dX15_looksMaster_78 : decode cX15_looksMaster 78 = .ok (.iadd, 1) := by decide +kernel
set_option maxRecDepth 20000 in
theorem dX15_looksMaster_79 : decode cX15_looksMaster 79 = .ok (.putfield 313, 3) := by decide +kernel
set_option maxRecDepth 20000 in
theorem dX15_looksMaster_82 : decode cX15_looksMaster 82 = .ok (.return_, 1) := by decide +kernel
set_option maxRecDepth 20000 in
theorem dX15_looksMaster_83 : decode cX15_looksMaster 83 = .ok (.aload_n 0, 1) := by decide +kernel
set_option maxRecDepth 20000 in
theorem dX15_looksMaster_84 : decode cX15_looksMaster 84 = .ok (.getfield 25, 3) := by decide +kernel
set_option maxRecDepth 20000 in
theorem dX15_looksMaster_87 : decode cX15_looksMaster 87 = .ok (.getfield 320, 3) := by decide +kernel
set_option maxRecDepth 20000 in
theorem dX15_looksMaster_90 : decode cX15_looksMaster 90 = .ok (.iconst 3, 1) := by decide +kernel
set_option maxRecDepth 20000 in
theorem dX15_looksMaster_91 : decode cX15_looksMaster 91 = .ok (.isub, 1) := by decide +kernel
set_option maxRecDepth 20000 in
theorem dX15_looksMaster_92 : decode cX15_looksMaster 92 = .ok (.istore_n 1, 1) := by decide +kernel
set_option maxRecDepth 20000 in
theorem dX15_looksMaster_93 : decode cX15_looksMaster 93 = .ok (.iconst 0, 1) := by decide +kernel
set_option maxRecDepth 20000 in
theorem dX15_looksMaster_94 : decode cX15_looksMaster 94 = .ok (.istore_n 2, 1) := by decide +kernel
set_option maxRecDepth 20000 in
theorem dX15_looksMaster_95 : decode cX15_looksMaster 95 = .ok (.iload_n 2, 1) := by decide +kernel
set_option maxRecDepth 20000 in
theorem dX15_looksMaster_96 : decode cX15_looksMaster 96 = .ok (.iload_n 1, 1) := by decide +kernel
set_option maxRecDepth 20000 in
theorem dX15_looksMaster_97 : decode cX15_looksMaster 97 = .ok (.if_icmp .ge 26, 3) := by decide +kernel
set_option maxRecDepth 20000 in
theorem dX15_looksMaster_100 : decode cX15_looksMaster 100 = .ok (.aload_n 0, 1) := by decide +kernel
set_option maxRecDepth 20000 in
theorem dX15_looksMaster_101 : decode cX15_looksMaster 101 = .ok (.getfield 19, 3) := by decide +kernel
set_option maxRecDepth 20000 in
theorem dX15_looksMaster_104 : decode cX15_looksMaster 104 = .ok (.iload_n 2, 1) := by decide +kernel
set_option maxRecDepth 20000 in
theorem dX15_looksMaster_105 : decode cX15_looksMaster 105 = .ok (.aload_n 0, 1) := by decide +kernel
set_option maxRecDepth 20000 in
theorem dX15_looksMaster_106 : decode cX15_looksMaster 106 = .ok (.getfield 25, 3) := by decide +kernel
set_option maxRecDepth 20000 in
theorem dX15_looksMaster_109 : decode cX15_looksMaster 109 = .ok (.getfield 302, 3) := by decide +kernel
set_option maxRecDepth 20000 in
theorem dX15_looksMaster_112 : decode cX15_looksMaster 112 = .ok (.iconst 1, 1) := by decide +kernel
set_option maxRecDepth 20000 in
theorem dX15_looksMaster_113 : decode cX15_looksMaster 113 = .ok (.iload_n 2, 1) := by decide +kernel
set_option maxRecDepth 20000 in
theorem dX15_looksMaster_114 : decode cX15_looksMaster 114 = .ok (.iadd, 1) := by decide +kernel
set_option maxRecDepth 20000 in
theorem dX15_looksMaster_115 : decode cX15_looksMaster 115 = .ok (.iaload, 1) := by decide +kernel
set_option maxRecDepth 20000 in
theorem dX15_looksMaster_116 : decode cX15_looksMaster 116 = .ok (.iastore, 1) := by decide +kernel
set_option maxRecDepth 20000 in
theorem dX15_looksMaster_117 : decode cX15_looksMaster 117 = .ok (.iinc 2 1, 3) := by decide +kernel
set_option maxRecDepth 20000 in
theorem dX15_looksMaster_120 : decode cX15_looksMaster 120 = .ok (.goto (-25), 3) := by decide +kernel
set_option maxRecDepth 20000 in
theorem dX15_looksMaster_123 : decode cX15_looksMaster 123 = .ok (.aload_n 0, 1) := by decide +kernel
set_option maxRecDepth 20000 in
theorem dX15_looksMaster_124 : decode cX15_looksMaster 124 = .ok (.getfield 44, 3) := by decide +kernel
set_option maxRecDepth 20000 in
theorem dX15_looksMaster_127 : decode cX15_looksMaster 127 = .ok (.getfield 321, 3) := by decide +kernel
set_option maxRecDepth 20000 in
theorem dX15_looksMaster_130 : decode cX15_looksMaster 130 = .ok (.iconst 0, 1) := by decide +kernel
set_option maxRecDepth 20000 in
theorem dX15_looksMaster_131 : decode cX15_looksMaster 131 = .ok (.aaload, 1) := by decide +kernel
set_option maxRecDepth 20000 in
theorem dX15_looksMaster_132 : decode cX15_looksMaster 132 = .ok (.astore_n 2, 1) := by decide +kernel
set_option maxRecDepth 20000 in
theorem dX15_looksMaster_133 : decode cX15_looksMaster 133 = .ok (.iload_n 1, 1) := by decide +kernel
set_option maxRecDepth 20000 in
theorem dX15_looksMaster_134 : decode cX15_looksMaster 134 = .ok (.iconst 2, 1) := by decide +kernel
set_option maxRecDepth 20000 in
theorem dX15_looksMaster_135 : decode cX15_looksMaster 135 = .ok (.if_icmp .ne 49, 3) := by decide +kernel
set_option maxRecDepth 20000 in
theorem dX15_looksMaster_138 : decode cX15_looksMaster 138 = .ok (.aload_n 0, 1) := by decide +kernel
set_option maxRecDepth 20000 in
theorem dX15_looksMaster_139 : decode cX15_looksMaster 139 = .ok (.getfield 19, 3) := by decide +kernel
set_option maxRecDepth 20000 in
theorem dX15_looksMaster_142 : decode cX15_looksMaster 142 = .ok (.aload_n 2, 1) := by decide +kernel
set_option maxRecDepth 20000 in
theorem dX15_looksMaster_143 : decode cX15_looksMaster 143 = .ok (.iconst 0, 1) := by decide +kernel
set_option maxRecDepth 20000 in
theorem dX15_looksMaster_144 : decode cX15_looksMaster 144 = .ok (.iaload, 1) := by decide +kernel
set_option maxRecDepth 20000 in
theorem dX15_looksMaster_145 : decode cX15_looksMaster 145 = .ok (.invokestatic 269, 3) := by decide +kernel
set_option maxRecDepth 20000 in
theorem dX15_looksMaster_148 : decode cX15_looksMaster 148 = .ok (.ifCond .eq 36, 3) := by decide +kernel
set_option maxRecDepth 20000 in
theorem dX15_looksMaster_151 : decode cX15_looksMaster 151 = .ok (.aload_n 0, 1) := by decide +kernel
set_option maxRecDepth 20000 in
theorem dX15_looksMaster_152 : decode cX15_looksMaster 152 = .ok (.getfield 19, 3) := by decide +kernel
set_option maxRecDepth 20000 in
theorem dX15_looksMaster_155 : decode cX15_looksMaster 155 = .ok (.iconst 1, 1) := by decide +kernel
set_option maxRecDepth 20000 in
theorem dX15_looksMaster_156 : decode cX15_looksMaster 156 = .ok (.iaload, 1) := by decide +kernel
set_option maxRecDepth 20000 in
theorem dX15_looksMaster_157 : decode cX15_looksMaster 157 = .ok (.bipush 6, 2) := by decide +kernel
set_option maxRecDepth 20000 in
theorem dX15_looksMaster_159 : decode cX15_looksMaster 159 = .ok (.if_icmp .ne 11, 3) := by decide +kernel
set_option maxRecDepth 20000 in
theorem dX15_looksMaster_162 : decode cX15_looksMaster 162 = .ok (.aload_n 0, 1) := by decide +kernel
set_option maxRecDepth 20000 in
theorem dX15_looksMaster_163 : decode cX15_looksMaster 163 = .ok (.iconst 4, 1) := by decide +kernel
set_option maxRecDepth 20000 in
theorem dX15_looksMaster_164 : decode cX15_looksMaster 164 = .ok (.invokevirtual 317, 3) := by decide +kernel
set_option maxRecDepth 20000 in
theorem dX15_looksMaster_167 : decode cX15_looksMaster 167 = .ok (.goto 16, 3) := by decide +kernel
set_option maxRecDepth 20000 in
theorem dX15_looksMaster_170 : decode cX15_looksMaster 170 = .ok (.aload_n 0, 1) := by decide +kernel
set_option maxRecDepth 20000 in
theorem dX15_looksMaster_171 : decode cX15_looksMaster 171 = .ok (.iconst 1, 1) := by decide +kernel
set_option maxRecDepth 20000 in
theorem dX15_looksMaster_172 : decode cX15_looksMaster 172 = .ok (.aload_n 0, 1) := by decide +kernel
set_option maxRecDepth 20000 in
theorem dX15_looksMaster_173 : decode cX15_looksMaster 173 = .ok (.getfield 19, 3) := by decide +kernel
set_option maxRecDepth 20000 in
theorem dX15_looksMaster_176 : decode cX15_looksMaster 176 = .ok (.iconst 1, 1) := by decide +kernel
set_option maxRecDepth 20000 in
theorem dX15_looksMaster_177 : decode cX15_looksMaster 177 = .ok (.iaload, 1) := by decide +kernel
set_option maxRecDepth 20000 in
theorem dX15_looksMaster_178 : decode cX15_looksMaster 178 = .ok (.iconst 0, 1) := by decide +kernel
set_option maxRecDepth 20000 in
theorem dX15_looksMaster_179 : decode cX15_looksMaster 179 = .ok (.iconst 0, 1) := by decide +kernel
set_option maxRecDepth 20000 in
theorem dX15_looksMaster_180 : decode cX15_looksMaster 180 = .ok (.invokevirtual 309, 3) := by decide +kernel
set_option maxRecDepth 20000 in
theorem dX15_looksMaster_183 : decode cX15_looksMaster 183 = .ok (.return_, 1) := by decide +kernel
set_option maxRecDepth 20000 in
theorem dX15_looksMaster_184 : decode cX15_looksMaster 184 = .ok (.aload_n 2, 1) := by decide +kernel
set_option maxRecDepth 20000 in
theorem dX15_looksMaster_185 : decode cX15_looksMaster 185 = .ok (.aload_n 0, 1) := by decide +kernel
set_option maxRecDepth 20000 in
theorem dX15_looksMaster_186 : decode cX15_looksMaster 186 = .ok (.getfield 44, 3) := by decide +kernel
set_option maxRecDepth 20000 in
theorem dX15_looksMaster_189 : decode cX15_looksMaster 189 = .ok (.getfield 323, 3) := by decide +kernel
set_option maxRecDepth 20000 in
theorem dX15_looksMaster_192 : decode cX15_looksMaster 192 = .ok (.iconst 0, 1) := by decide +kernel
set_option maxRecDepth 20000 in
theorem dX15_looksMaster_193 : decode cX15_looksMaster 193 = .ok (.iaload, 1) := by decide +kernel
set_option maxRecDepth 20000 in
theorem dX15_looksMaster_194 : decode cX15_looksMaster 194 = .ok (.aload_n 0, 1) := by decide +kernel
set_option maxRecDepth 20000 in
theorem dX15_looksMaster_195 : decode cX15_looksMaster 195 = .ok (.getfield 19, 3) := by decide +kernel
set_option maxRecDepth 20000 in
theorem dX15_looksMaster_198 : decode cX15_looksMaster 198 = .ok (.iload_n 1, 1) := by decide +kernel
set_option maxRecDepth 20000 in
theorem dX15_looksMaster_199 : decode cX15_looksMaster 199 = .ok (.invokestatic 326, 3) := by decide +kernel
set_option maxRecDepth 20000 in
theorem dX15_looksMaster_202 : decode cX15_looksMaster 202 = .ok (.ifCond .eq 14, 3) := by decide +kernel
set_option maxRecDepth 20000 in
theorem dX15_looksMaster_205 : decode cX15_looksMaster 205 = .ok (.aload_n 0, 1) := by decide +kernel
set_option maxRecDepth 20000 in
theorem dX15_looksMaster_206 : decode cX15_looksMaster 206 = .ok (.iconst 0, 1) := by decide +kernel
set_option maxRecDepth 20000 in
theorem dX15_looksMaster_207 : decode cX15_looksMaster 207 = .ok (.iconst 0, 1) := by decide +kernel
set_option maxRecDepth 20000 in
theorem dX15_looksMaster_208 : decode cX15_looksMaster 208 = .ok (.iconst 1, 1) := by decide +kernel
set_option maxRecDepth 20000 in
theorem dX15_looksMaster_209 : decode cX15_looksMaster 209 = .ok (.iload_n 1, 1) := by decide +kernel
set_option maxRecDepth 20000 in
theorem dX15_looksMaster_210 : decode cX15_looksMaster 210 = .ok (.invokevirtual 309, 3) := by decide +kernel
set_option maxRecDepth 20000 in
theorem dX15_looksMaster_213 : decode cX15_looksMaster 213 = .ok (.goto 8, 3) := by decide +kernel
set_option maxRecDepth 20000 in
theorem dX15_looksMaster_216 : decode cX15_looksMaster 216 = .ok (.aload_n 0, 1) := by decide +kernel
set_option maxRecDepth 20000 in
theorem dX15_looksMaster_217 : decode cX15_looksMaster 217 = .ok (.iconst 3, 1) := by decide +kernel
set_option maxRecDepth 20000 in
theorem dX15_looksMaster_218 : decode cX15_looksMaster 218 = .ok (.invokevirtual 317, 3) := by decide +kernel
set_option maxRecDepth 20000 in
theorem dX15_looksMaster_221 : decode cX15_looksMaster 221 = .ok (.return_, 1) := by decide +kernel
set_option maxRecDepth 20000 in
theorem dX15_isBegun_0 : decode cX15_isBegun 0 = .ok (.iconst 1, 1) := by decide +kernel
set_option maxRecDepth 20000 in
theorem dX15_isBegun_1 : decode cX15_isBegun 1 = .ok (.istore_n 3, 1) := by decide +kernel
set_option maxRecDepth 20000 in
theorem dX15_isBegun_2 : decode cX15_isBegun 2 = .ok (.iconst 0, 1) := by decide +kernel
set_option maxRecDepth 20000 in
theorem dX15_isBegun_3 : decode cX15_isBegun 3 = .ok (.istore 4, 2) := by decide +kernel
set_option maxRecDepth 20000 in
theorem dX15_isBegun_5 : decode cX15_isBegun 5 = .ok (.iload 4, 2) := by decide +kernel
set_option maxRecDepth 20000 in
theorem dX15_isBegun_7 : decode cX15_isBegun 7 = .ok (.iload_n 2, 1) := by decide +kernel
set_option maxRecDepth 20000 in
theorem dX15_isBegun_8 : decode cX15_isBegun 8 = .ok (.if_icmp .ge 30, 3) := by decide +kernel
set_option maxRecDepth 20000 in
theorem dX15_isBegun_11 : decode cX15_isBegun 11 = .ok (.iload_n 3, 1) := by decide +kernel
set_option maxRecDepth 20000 in
theorem dX15_isBegun_12 : decode cX15_isBegun 12 = .ok (.ifCond .eq 18, 3) := by decide +kernel
set_option maxRecDepth 20000 in
theorem dX15_isBegun_15 : decode cX15_isBegun 15 = .ok (.aload_n 0, 1) := by decide +kernel
set_option maxRecDepth 20000 in
theorem dX15_isBegun_16 : decode cX15_isBegun 16 = .ok (.iload 4, 2) := by decide +kernel
set_option maxRecDepth 20000 in
theorem dX15_isBegun_18 : decode cX15_isBegun 18 = .ok (.iaload, 1) := by decide +kernel
set_option maxRecDepth 20000 in
theorem dX15_isBegun_19 : decode cX15_isBegun 19 = .ok (.aload_n 1, 1) := by decide +kernel
set_option maxRecDepth 20000 in
theorem dX15_isBegun_20 : decode cX15_isBegun 20 = .ok (.iload 4, 2) := by decide +kernel
set_option maxRecDepth 20000 in
theorem dX15_isBegun_22 : decode cX15_isBegun 22 = .ok (.iaload, 1) := by decide +kernel
set_option maxRecDepth 20000 in
theorem dX15_isBegun_23 : decode cX15_isBegun 23 = .ok (.if_icmp .ne 7, 3) := by decide +kernel
set_option maxRecDepth 20000 in
theorem dX15_isBegun_26 : decode cX15_isBegun 26 = .ok (.iconst 1, 1) := by decide +kernel
set_option maxRecDepth 20000 in
theorem dX15_isBegun_27 : decode cX15_isBegun 27 = .ok (.goto 4, 3) := by decide +kernel
set_option maxRecDepth 20000 in
theorem dX15_isBegun_30 : decode cX15_isBegun 30 = .ok (.iconst 0, 1) := by decide +kernel
set_option maxRecDepth 20000 in
theorem dX15_isBegun_31 : decode cX15_isBegun 31 = .ok (.istore_n 3, 1) := by decide +kernel
set_option maxRecDepth 20000 in
theorem dX15_isBegun_32 : decode cX15_isBegun 32 = .ok (.iinc 4 1, 3) := by decide +kernel
set_option maxRecDepth 20000 in
theorem dX15_isBegun_35 : decode cX15_isBegun 35 = .ok (.goto (-30), 3) := by decide +kernel
set_option maxRecDepth 20000 in
theorem dX15_isBegun_38 : decode cX15_isBegun 38 = .ok (.iload_n 3, 1) := by decide +kernel
set_option maxRecDepth 20000 in
theorem dX15_isBegun_39 : decode cX15_isBegun 39 = .ok (.ireturn, 1) := by decide +kernel
set_option maxRecDepth 20000 in
theorem dX15_doesFit_0 : decode cX15_doesFit 0 = .ok (.aload_n 0, 1) := by decide +kernel
set_option maxRecDepth 20000 in
theorem dX15_doesFit_1 : decode cX15_doesFit 1 = .ok (.iconst 0, 1) := by decide +kernel
set_option maxRecDepth 20000 in
theorem dX15_doesFit_2 : decode cX15_doesFit 2 = .ok (.iaload, 1) := by decide +kernel
set_option maxRecDepth 20000 in
theorem dX15_doesFit_3 : decode cX15_doesFit 3 = .ok (.istore 4, 2) := by decide +kernel
set_option maxRecDepth 20000 in
theorem dX15_doesFit_5 : decode cX15_doesFit 5 = .ok (.aload_n 2, 1) := by decide +kernel
set_option maxRecDepth 20000 in
theorem dX15_doesFit_6 : decode cX15_doesFit 6 = .ok (.iconst 0, 1) := by decide +kernel
set_option maxRecDepth 20000 in
theorem dX15_doesFit_7 : decode cX15_doesFit 7 = .ok (.iaload, 1) := by decide +kernel
set_option maxRecDepth 20000 in
theorem dX15_doesFit_8 : decode cX15_doesFit 8 = .ok (.iload 4, 2) := by decide +kernel
set_option maxRecDepth 20000 in
theorem dX15_doesFit_10 : decode cX15_doesFit 10 = .ok (.if_icmp .ne 11, 3) := by decide +kernel
set_option maxRecDepth 20000 in
theorem dX15_doesFit_13 : decode cX15_doesFit 13 = .ok (.aload_n 0, 1) := by decide +kernel
set_option maxRecDepth 20000 in
theorem dX15_doesFit_14 : decode cX15_doesFit 14 = .ok (.iload_n 1, 1) := by decide +kernel
set_option maxRecDepth 20000 in
theorem dX15_doesFit_15 : decode cX15_doesFit 15 = .ok (.invokestatic 103, 3) := by decide +kernel
set_option maxRecDepth 20000 in
theorem dX15_doesFit_18 : decode cX15_doesFit 18 = .ok (.ifCond .ne 5, 3) := by decide +kernel
set_option maxRecDepth 20000 in
theorem dX15_doesFit_21 : decode cX15_doesFit 21 = .ok (.iconst 0, 1) := by decide +kernel
set_option maxRecDepth 20000 in
theorem dX15_doesFit_22 : decode cX15_doesFit 22 = .ok (.ireturn, 1) := by decide +kernel
set_option maxRecDepth 20000 in
theorem dX15_doesFit_23 : decode cX15_doesFit 23 = .ok (.iload 4, 2) := by decide +kernel
set_option maxRecDepth 20000 in
theorem dX15_doesFit_25 : decode cX15_doesFit 25 = .ok (.tableswitch 460 1 24 #[151, 151, 188, 188, 111, 111, 221, 232, 460, 460, 310, 321, 460, 460, 131, 131, 354, 460, 460, 381, 111, 111, 188, 411], 111) := by decide +kernel
set_option maxRecDepth 20000 in
theorem dX15_doesFit_136 : decode cX15_doesFit 136 = .ok (.iload_n 3, 1) := by decide +kernel
set_option maxRecDepth 20000 in
theorem dX15_doesFit_137 : decode cX15_doesFit 137 = .ok (.iload_n 1, 1) := by decide +kernel
set_option maxRecDepth 20000 in
theorem dX15_doesFit_138 : decode cX15_doesFit 138 = .ok (.if_icmp .ne 16, 3) := by decide +kernel
set_option maxRecDepth 20000 in
theorem dX15_doesFit_141 : decode cX15_doesFit 141 = .ok (.aload_n 0, 1) := by decide +kernel
set_option maxRecDepth 20000 in
theorem dX15_doesFit_142 : decode cX15_doesFit 142 = .ok (.aload_n 2, 1) := by decide +kernel
set_option maxRecDepth 20000 in
theorem dX15_doesFit_143 : decode cX15_doesFit 143 = .ok (.iload_n 3, 1) := by decide +kernel
set_option maxRecDepth 20000 in
theorem dX15_doesFit_144 : decode cX15_doesFit 144 = .ok (.invokestatic 330, 3) := by decide +kernel
set_option maxRecDepth 20000 in
theorem dX15_doesFit_147 : decode cX15_doesFit 147 = .ok (.ifCond .eq 7, 3) := by decide +kernel
set_option maxRecDepth 20000 in
theorem dX15_doesFit_150 : decode cX15_doesFit 150 = .ok (.iconst 1, 1) := by decide +kernel
set_option maxRecDepth 20000 in
theorem dX15_doesFit_151 : decode cX15_doesFit 151 = .ok (.goto 4, 3) := by decide +kernel
set_option maxRecDepth 20000 in
theorem dX15_doesFit_154 : decode cX15_doesFit 154 = .ok (.iconst 0, 1) := by decide +kernel
set_option maxRecDepth 20000 in
theorem dX15_doesFit_155 : decode cX15_doesFit 155 = .ok (.ireturn, 1) := by decide +kernel
set_option maxRecDepth 20000 in
theorem dX15_doesFit_156 : decode cX15_doesFit 156 = .ok (.iload_n 3, 1) := by decide +kernel
set_option maxRecDepth 20000 in
theorem dX15_doesFit_157 : decode cX15_doesFit 157 = .ok (.iconst 5, 1) := by decide +kernel
set_option maxRecDepth 20000 in
theorem dX15_doesFit_158 : decode cX15_doesFit 158 = .ok (.if_icmp .ne 16, 3) := by decide +kernel
set_option maxRecDepth 20000 in
theorem dX15_doesFit_161 : decode cX15_doesFit 161 = .ok (.aload_n 0, 1) := by decide +kernel
set_option maxRecDepth 20000 in
theorem dX15_doesFit_162 : decode cX15_doesFit 162 = .ok (.aload_n 2, 1) := by decide +kernel
set_option maxRecDepth 20000 in
theorem dX15_doesFit_163 : decode cX15_doesFit 163 = .ok (.iconst 5, 1) := by decide +kernel
set_option maxRecDepth 20000 in
theorem dX15_doesFit_164 : decode cX15_doesFit 164 = .ok (.invokestatic 330, 3) := by decide +kernel
set_option maxRecDepth 20000 in
theorem dX15_doesFit_167 : decode cX15_doesFit 167 = .ok (.ifCond .eq 7, 3) := by decide +kernel
set_option maxRecDepth 20000 in
theorem dX15_doesFit_170 : decode cX15_doesFit 170 = .ok (.iconst 1, 1) := by decide +kernel
set_option maxRecDepth 20000 in
theorem dX15_doesFit_171 : decode cX15_doesFit 171 = .ok (.goto 4, 3) := by decide +kernel
set_option maxRecDepth 20000 in
theorem dX15_doesFit_174 : decode cX15_doesFit 174 = .ok (.iconst 0, 1) := by decide +kernel
set_option maxRecDepth 20000 in
theorem dX15_doesFit_175 : decode cX15_doesFit 175 = .ok (.ireturn, 1) := by decide +kernel
set_option maxRecDepth 20000 in
theorem dX15_doesFit_176 : decode cX15_doesFit 176 = .ok (.iload_n 3, 1) := by decide +kernel
set_option maxRecDepth 20000 in
theorem dX15_doesFit_177 : decode cX15_doesFit 177 = .ok (.iconst 2, 1) := by decide +kernel
set_option maxRecDepth 20000 in
theorem dX15_doesFit_178 : decode cX15_doesFit 178 = .ok (.if_icmp .lt 33, 3) := by decide +kernel
set_option maxRecDepth 20000 in
theorem dX15_doesFit_181 : decode cX15_doesFit 181 = .ok (.aload_n 2, 1) := by decide +kernel
set_option maxRecDepth 20000 in
theorem dX15_doesFit_182 : decode cX15_doesFit 182 = .ok (.iconst 1, 1) := by decide +kernel
set_option maxRecDepth 20000 in
theorem dX15_doesFit_183 : decode cX15_doesFit 183 = .ok (.iaload, 1) := by decide +kernel
set_option maxRecDepth 20000 in
theorem dX15_doesFit_184 : decode cX15_doesFit 184 = .ok (.aload_n 0, 1) := by decide +kernel
set_option maxRecDepth 20000 in
theorem dX15_doesFit_185 : decode cX15_doesFit 185 = .ok (.iconst 3, 1) := by decide +kernel
set_option maxRecDepth 20000 in
theorem dX15_doesFit_186 : decode cX15_doesFit 186 = .ok (.invokestatic 85, 3) := by decide +kernel
set_option maxRecDepth 20000 in
theorem dX15_doesFit_189 : decode cX15_doesFit 189 = .ok (.bipush 7, 2) := by decide +kernel
set_option maxRecDepth 20000 in
theorem dX15_doesFit_191 : decode cX15_doesFit 191 = .ok (.iadd, 1) := by decide +kernel
set_option maxRecDepth 20000 in
theorem dX15_doesFit_192 : decode cX15_doesFit 192 = .ok (.bipush 8, 2) := by decide +kernel
set_option maxRecDepth 20000 in
theorem dX15_doesFit_194 : decode cX15_doesFit 194 = .ok (.idiv, 1) := by decide +kernel
set_option maxRecDepth 20000 in
theorem dX15_doesFit_195 : decode cX15_doesFit 195 = .ok (.if_icmp .ne 16, 3) := by decide +kernel
set_option maxRecDepth 20000 in
theorem dX15_doesFit_198 : decode cX15_doesFit 198 = .ok (.iload_n 3, 1) := by decide +kernel
set_option maxRecDepth 20000 in
theorem dX15_doesFit_199 : decode cX15_doesFit 199 = .ok (.iconst 2, 1) := by decide +kernel
set_option maxRecDepth 20000 in
theorem dX15_doesFit_200 : decode cX15_doesFit 200 = .ok (.aload_n 2, 1) := by decide +kernel
set_option maxRecDepth 20000 in
theorem dX15_doesFit_201 : decode cX15_doesFit 201 = .ok (.iconst 1, 1) := by decide +kernel
set_option maxRecDepth 20000 in
theorem dX15_doesFit_202 : decode cX15_doesFit 202 = .ok (.iaload, 1) := by decide +kernel
set_option maxRecDepth 20000 in
theorem dX15_doesFit_203 : decode cX15_doesFit 203 = .ok (.iadd, 1) := by decide +kernel
set_option maxRecDepth 20000 in
theorem dX15_doesFit_204 : decode cX15_doesFit 204 = .ok (.if_icmp .ne 7, 3) := by decide +kernel
set_option maxRecDepth 20000 in
theorem dX15_doesFit_207 : decode cX15_doesFit 207 = .ok (.iconst 1, 1) := by decide +kernel
set_option maxRecDepth 20000 in
theorem dX15_doesFit_208 : decode cX15_doesFit 208 = .ok (.goto 4, 3) := by decide +kernel
set_option maxRecDepth 20000 in
theorem dX15_doesFit_211 : decode cX15_doesFit 211 = .ok (.iconst 0, 1) := by decide +kernel
set_option maxRecDepth 20000 in
theorem dX15_doesFit_212 : decode cX15_doesFit 212 = .ok (.ireturn, 1) := by decide +kernel
set_option maxRecDepth 20000 in
theorem dX15_doesFit_213 : decode cX15_doesFit 213 = .ok (.iload_n 3, 1) := by decide +kernel
set_option maxRecDepth 20000 in
theorem dX15_doesFit_214 : decode cX15_doesFit 214 = .ok (.iconst 2, 1) := by decide +kernel
set_option maxRecDepth 20000 in
theorem dX15_doesFit_215 : decode cX15_doesFit 215 = .ok (.if_icmp .lt 29, 3) := by decide +kernel
set_option maxRecDepth 20000 in
theorem dX15_doesFit_218 : decode cX15_doesFit 218 = .ok (.aload_n 2, 1) := by decide +kernel
set_option maxRecDepth 20000 in
theorem dX15_doesFit_219 : decode cX15_doesFit 219 = .ok (.iconst 1, 1) := by decide +kernel
set_option maxRecDepth 20000 in
theorem dX15_doesFit_220 : decode cX15_doesFit 220 = .ok (.iaload, 1) := by decide +kernel
set_option maxRecDepth 20000 in
theorem dX15_doesFit_221 : decode cX15_doesFit 221 = .ok (.iconst 2, 1) := by decide +kernel
set_option maxRecDepth 20000 in
theorem dX15_doesFit_222 : decode cX15_doesFit 222 = .ok (.aload_n 0, 1) := by decide +kernel
set_option maxRecDepth 20000 in
theorem dX15_doesFit_223 : decode cX15_doesFit 223 = .ok (.iconst 3, 1) := by decide +kernel
set_option maxRecDepth 20000 in
theorem dX15_doesFit_224 : decode cX15_doesFit 224 = .ok (.invokestatic 85, 3) := by decide +kernel
set_option maxRecDepth 20000 in
theorem dX15_doesFit_227 : decode cX15_doesFit 227 = .ok (.imul, 1) := by decide +kernel
set_option maxRecDepth 20000 in
theorem dX15_doesFit_228 : decode cX15_doesFit 228 = .ok (.if_icmp .ne 16, 3) := by decide +kernel
set_option maxRecDepth 20000 in
theorem dX15_doesFit_231 : decode cX15_doesFit 231 = .ok (.iload_n 3, 1) := by decide +kernel
set_option maxRecDepth 20000 in
theorem dX15_doesFit_232 : decode cX15_doesFit 232 = .ok (.iconst 2, 1) := by decide +kernel
set_option maxRecDepth 20000 in
theorem dX15_doesFit_233 : decode cX15_doesFit 233 = .ok (.aload_n 2, 1) := by decide +kernel
set_option maxRecDepth 20000 in
theorem dX15_doesFit_234 : decode cX15_doesFit 234 = .ok (.iconst 1, 1) := by decide +kernel
set_option maxRecDepth 20000 in
theorem dX15_doesFit_235 : decode cX15_doesFit 235 = .ok (.iaload, 1) := by decide +kernel
set_option maxRecDepth 20000 in
theorem dX15_doesFit_236 : decode cX15_doesFit 236 = .ok (.iadd, 1) := by decide +kernel
set_option maxRecDepth 20000 in
theorem dX15_doesFit_237 : decode cX15_doesFit 237 = .ok (.if_icmp .ne 7, 3) := by decide +kernel
set_option maxRecDepth 20000 in
theorem dX15_doesFit_240 : decode cX15_doesFit 240 = .ok (.iconst 1, 1) := by decide +kernel
set_option maxRecDepth 20000 in
theorem dX15_doesFit_241 : decode cX15_doesFit 241 = .ok (.goto 4, 3) := by decide +kernel
set_option maxRecDepth 20000 in
theorem dX15_doesFit_244 : decode cX15_doesFit 244 = .ok (.iconst 0, 1) := by decide +kernel
set_option maxRecDepth 20000 in
theorem dX15_doesFit_245 : decode cX15_doesFit 245 = .ok (.ireturn, 1) := by decide +kernel
set_option maxRecDepth 20000 in
theorem dX15_doesFit_246 : decode cX15_doesFit 246 = .ok (.iload_n 3, 1) := by decide +kernel
set_option maxRecDepth 20000 in
theorem dX15_doesFit_247 : decode cX15_doesFit 247 = .ok (.iconst 2, 1) := by decide +kernel
set_option maxRecDepth 20000 in
theorem dX15_doesFit_248 : decode cX15_doesFit 248 = .ok (.if_icmp .ne 7, 3) := by decide +kernel
set_option maxRecDepth 20000 in
theorem dX15_doesFit_251 : decode cX15_doesFit 251 = .ok (.iconst 1, 1) := by decide +kernel
set_option maxRecDepth 20000 in
theorem dX15_doesFit_252 : decode cX15_doesFit 252 = .ok (.goto 4, 3) := by decide +kernel
set_option maxRecDepth 20000 in
theorem dX15_doesFit_255 : decode cX15_doesFit 255 = .ok (.iconst 0, 1) := by decide +kernel
set_option maxRecDepth 20000 in
theorem dX15_doesFit_256 : decode cX15_doesFit 256 = .ok (.ireturn, 1) := by decide +kernel
set_option maxRecDepth 20000 in
theorem dX15_doesFit_257 : decode cX15_doesFit 257 = .ok (.aload_n 0, 1) := by decide +kernel
set_option maxRecDepth 20000 in
theorem dX15_doesFit_258 : decode cX15_doesFit 258 = .ok (.iconst 1, 1) := by decide +kernel
set_option maxRecDepth 20000 in
theorem dX15_doesFit_259 : decode cX15_doesFit 259 = .ok (.invokestatic 85, 3) := by decide +kernel
set_option maxRecDepth 20000 in
theorem dX15_doesFit_262 : decode cX15_doesFit 262 = .ok (.istore 5, 2) := by decide +kernel
set_option maxRecDepth 20000 in
theorem dX15_doesFit_264 : decode cX15_doesFit 264 = .ok (.iload 5, 2) := by decide +kernel
set_option maxRecDepth 20000 in
theorem dX15_doesFit_266 : decode cX15_doesFit 266 = .ok (.ifCond .eq 23, 3) := by decide +kernel
set_option maxRecDepth 20000 in
theorem dX15_doesFit_269 : decode cX15_doesFit 269 = .ok (.iload 5, 2) := by decide +kernel
set_option maxRecDepth 20000 in
theorem dX15_doesFit_271 : decode cX15_doesFit 271 = .ok (.iconst 1, 1) := by decide +kernel
set_option maxRecDepth 20000 in
theorem dX15_doesFit_272 : decode cX15_doesFit 272 = .ok (.if_icmp .eq 17, 3) := by decide +kernel
set_option maxRecDepth 20000 in
theorem dX15_doesFit_275 : decode cX15_doesFit 275 = .ok (.iload 5, 2) := by decide +kernel
set_option maxRecDepth 20000 in
theorem dX15_doesFit_277 : decode cX15_doesFit 277 = .ok (.bipush 10, 2) := by decide +kernel
set_option maxRecDepth 20000 in
theorem dX15_doesFit_279 : decode cX15_doesFit 279 = .ok (.if_icmp .eq 10, 3) := by decide +kernel
set_option maxRecDepth 20000 in
theorem dX15_doesFit_282 : decode cX15_doesFit 282 = .ok (.iload 5, 2) := by decide +kernel
set_option maxRecDepth 20000 in
theorem dX15_doesFit_284 : decode cX15_doesFit 284 = .ok (.bipush 20, 2) := by decide +kernel
set_option maxRecDepth 20000 in
theorem dX15_doesFit_286 : decode cX15_doesFit 286 = .ok (.if_icmp .ne 23, 3) := by decide +kernel
set_option maxRecDepth 20000 in
theorem dX15_doesFit_289 : decode cX15_doesFit 289 = .ok (.iload_n 3, 1) := by decide +kernel
set_option maxRecDepth 20000 in
theorem dX15_doesFit_290 : decode cX15_doesFit 290 = .ok (.iload_n 1, 1) := by decide +kernel
set_option maxRecDepth 20000 in
theorem dX15_doesFit_291 : decode cX15_doesFit 291 = .ok (.if_icmp .ne 16, 3) := by decide +kernel
set_option maxRecDepth 20000 in
theorem dX15_doesFit_294 : decode cX15_doesFit 294 = .ok (.aload_n 0, 1) := by decide +kernel
set_option maxRecDepth 20000 in
theorem dX15_doesFit_295 : decode cX15_doesFit 295 = .ok (.aload_n 2, 1) := by decide +kernel
set_option maxRecDepth 20000 in
theorem dX15_doesFit_296 : decode cX15_doesFit 296 = .ok (.iload_n 3, 1) := by decide +kernel
set_option maxRecDepth 20000 in
theorem dX15_doesFit_297 : decode cX15_doesFit 297 = .ok (.invokestatic 330, 3) := by decide +kernel
set_option maxRecDepth 20000 in
theorem dX15_doesFit_300 : decode cX15_doesFit 300 = .ok (.ifCond .eq 7, 3) := by decide +kernel
set_option maxRecDepth 20000 in
theorem dX15_doesFit_303 : decode cX15_doesFit 303 = .ok (.iconst 1, 1) := by decide +kernel
set_option maxRecDepth 20000 in
theorem dX15_doesFit_304 : decode cX15_doesFit 304 = .ok (.goto 4, 3) := by decide +kernel
set_option maxRecDepth 20000 in
theorem dX15_doesFit_307 : decode cX15_doesFit 307 = .ok (.iconst 0, 1) := by decide +kernel
set_option maxRecDepth 20000 in
theorem dX15_doesFit_308 : decode cX15_doesFit 308 = .ok (.ireturn, 1) := by decide +kernel
set_option maxRecDepth 20000 in
theorem dX15_doesFit_309 : decode cX15_doesFit 309 = .ok (.iload 5, 2) := by decide +kernel
set_option maxRecDepth 20000 in
theorem dX15_doesFit_311 : decode cX15_doesFit 311 = .ok (.iconst 4, 1) := by decide +kernel
set_option maxRecDepth 20000 in
theorem dX15_doesFit_312 : decode cX15_doesFit 312 = .ok (.if_icmp .eq 21, 3) := by decide +kernel
set_option maxRecDepth 20000 in
theorem dX15_doesFit_315 : decode cX15_doesFit 315 = .ok (.iload_n 3, 1) := by decide +kernel
set_option maxRecDepth 20000 in
theorem dX15_doesFit_316 : decode cX15_doesFit 316 = .ok (.iconst 5, 1) := by decide +kernel
set_option maxRecDepth 20000 in
theorem dX15_doesFit_317 : decode cX15_doesFit 317 = .ok (.if_icmp .ne 16, 3) := by decide +kernel
set_option maxRecDepth 20000 in
theorem dX15_doesFit_320 : decode cX15_doesFit 320 = .ok (.aload_n 0, 1) := by decide +kernel
set_option maxRecDepth 20000 in
theorem dX15_doesFit_321 : decode cX15_doesFit 321 = .ok (.aload_n 2, 1) := by decide +kernel
set_option maxRecDepth 20000 in
theorem dX15_doesFit_322 : decode cX15_doesFit 322 = .ok (.iconst 3, 1) := by decide +kernel
set_option maxRecDepth 20000 in
theorem dX15_doesFit_323 : decode cX15_doesFit 323 = .ok (.invokestatic 330, 3) := by decide +kernel
set_option maxRecDepth 20000 in
theorem dX15_doesFit_326 : decode cX15_doesFit 326 = .ok (.ifCond .eq 7, 3) := by decide +kernel
set_option maxRecDepth 20000 in
theorem dX15_doesFit_329 : decode cX15_doesFit 329 = .ok (.iconst 1, 1) := by decide +kernel
set_option maxRecDepth 20000 in
theorem dX15_doesFit_330 : decode cX15_doesFit 330 = .ok (.goto 4, 3) := by decide +kernel
set_option maxRecDepth 20000 in
theorem dX15_doesFit_333 : decode cX15_doesFit 333 = .ok (.iconst 0, 1) := by decide +kernel
set_option maxRecDepth 20000 in
theorem dX15_doesFit_334 : decode cX15_doesFit 334 = .ok (.ireturn, 1) := by decide +kernel
set_option maxRecDepth 20000 in
theorem dX15_doesFit_335 : decode cX15_doesFit 335 = .ok (.iload_n 3, 1) := by decide +kernel
set_option maxRecDepth 20000 in
theorem dX15_doesFit_336 : decode cX15_doesFit 336 = .ok (.iconst 5, 1) := by decide +kernel
set_option maxRecDepth 20000 in
theorem dX15_doesFit_337 : decode cX15_doesFit 337 = .ok (.if_icmp .ne 7, 3) := by decide +kernel
set_option maxRecDepth 20000 in
theorem dX15_doesFit_340 : decode cX15_doesFit 340 = .ok (.iconst 1, 1) := by decide +kernel
set_option maxRecDepth 20000 in
theorem dX15_doesFit_341 : decode cX15_doesFit 341 = .ok (.goto 4, 3) := by decide +kernel
set_option maxRecDepth 20000 in
theorem dX15_doesFit_344 : decode cX15_doesFit 344 = .ok (.iconst 0, 1) := by decide +kernel
set_option maxRecDepth 20000 in
theorem dX15_doesFit_345 : decode cX15_doesFit 345 = .ok (.ireturn, 1) := by decide +kernel
set_option maxRecDepth 20000 in
theorem dX15_doesFit_346 : decode cX15_doesFit 346 = .ok (.iload_n 3, 1) := by decide +kernel
set_option maxRecDepth 20000 in
theorem dX15_doesFit_347 : decode cX15_doesFit 347 = .ok (.iconst 2, 1) := by decide +kernel
set_option maxRecDepth 20000 in
theorem dX15_doesFit_348 : decode cX15_doesFit 348 = .ok (.if_icmp .lt 29, 3) := by decide +kernel
set_option maxRecDepth 20000 in
theorem dX15_doesFit_351 : decode cX15_doesFit 351 = .ok (.aload_n 2, 1) := by decide +kernel
set_option maxRecDepth 20000 in
theorem dX15_doesFit_352 : decode cX15_doesFit 352 = .ok (.iconst 1, 1) := by decide +kernel
set_option maxRecDepth 20000 in
theorem dX15_doesFit_353 : decode cX15_doesFit 353 = .ok (.iaload, 1) := by decide +kernel
set_option maxRecDepth 20000 in
theorem dX15_doesFit_354 : decode cX15_doesFit 354 = .ok (.bipush 6, 2) := by decide +kernel
set_option maxRecDepth 20000 in
theorem dX15_doesFit_356 : decode cX15_doesFit 356 = .ok (.bipush 70, 2) := by decide +kernel
set_option maxRecDepth 20000 in
theorem dX15_doesFit_358 : decode cX15_doesFit 358 = .ok (.invokestatic 81, 3) := by decide +kernel
set_option maxRecDepth 20000 in
theorem dX15_doesFit_361 : decode cX15_doesFit 361 = .ok (.ifCond .eq 16, 3) := by decide +kernel
set_option maxRecDepth 20000 in
theorem dX15_doesFit_364 : decode cX15_doesFit 364 = .ok (.iload_n 3, 1) := by decide +kernel
set_option maxRecDepth 20000 in
theorem dX15_doesFit_365 : decode cX15_doesFit 365 = .ok (.iconst 2, 1) := by decide +kernel
set_option maxRecDepth 20000 in
theorem dX15_doesFit_366 : decode cX15_doesFit 366 = .ok (.aload_n 2, 1) := by decide +kernel
set_option maxRecDepth 20000 in
theorem dX15_doesFit_367 : decode cX15_doesFit 367 = .ok (.iconst 1, 1) := by decide +kernel
set_option maxRecDepth 20000 in
theorem dX15_doesFit_368 : decode cX15_doesFit 368 = .ok (.iaload, 1) := by decide +kernel
set_option maxRecDepth 20000 in
theorem dX15_doesFit_369 : decode cX15_doesFit 369 = .ok (.iadd, 1) := by decide +kernel
set_option maxRecDepth 20000 in
theorem dX15_doesFit_370 : decode cX15_doesFit 370 = .ok (.if_icmp .ne 7, 3) := by decide +kernel
set_option maxRecDepth 20000 in
theorem dX15_doesFit_373 : decode cX15_doesFit 373 = .ok (.iconst 1, 1) := by decide +kernel
set_option maxRecDepth 20000 in
theorem dX15_doesFit_374 : decode cX15_doesFit 374 = .ok (.goto 4, 3) := by decide +kernel
set_option maxRecDepth 20000 in
theorem dX15_doesFit_377 : decode cX15_doesFit 377 = .ok (.iconst 0, 1) := by decide +kernel
set_option maxRecDepth 20000 in
theorem dX15_doesFit_378 : decode cX15_doesFit 378 = .ok (.ireturn, 1) := by decide +kernel
set_option maxRecDepth 20000 in
theorem dX15_doesFit_379 : decode cX15_doesFit 379 = .ok (.iload_n 3, 1) := by decide +kernel
set_option maxRecDepth 20000 in
theorem dX15_doesFit_380 : decode cX15_doesFit 380 = .ok (.iconst 2, 1) := by decide +kernel
set_option maxRecDepth 20000 in
theorem dX15_doesFit_381 : decode cX15_doesFit 381 = .ok (.if_icmp .lt 23, 3) := by decide +kernel
set_option maxRecDepth 20000 in
theorem dX15_doesFit_384 : decode cX15_doesFit 384 = .ok (.aload_n 2, 1) := by decide +kernel
set_option maxRecDepth 20000 in
theorem dX15_doesFit_385 : decode cX15_doesFit 385 = .ok (.iconst 1, 1) := by decide +kernel
set_option maxRecDepth 20000 in
theorem dX15_doesFit_386 : decode cX15_doesFit 386 = .ok (.iaload, 1) := by decide +kernel
set_option maxRecDepth 20000 in
theorem dX15_doesFit_387 : decode cX15_doesFit 387 = .ok (.iconst 1, 1) := by decide +kernel
set_option maxRecDepth 20000 in
theorem dX15_doesFit_388 : decode cX15_doesFit 388 = .ok (.if_icmp .lt 16, 3) := by decide +kernel
set_option maxRecDepth 20000 in
theorem dX15_doesFit_391 : decode cX15_doesFit 391 = .ok (.iload_n 3, 1) := by decide +kernel
set_option maxRecDepth 20000 in
theorem dX15_doesFit_392 : decode cX15_doesFit 392 = .ok (.iconst 2, 1) := by decide +kernel
set_option maxRecDepth 20000 in
theorem dX15_doesFit_393 : decode cX15_doesFit 393 = .ok (.aload_n 2, 1) := by decide +kernel
set_option maxRecDepth 20000 in
theorem dX15_doesFit_394 : decode cX15_doesFit 394 = .ok (.iconst 1, 1) := by decide +kernel
set_option maxRecDepth 20000 in
theorem dX15_doesFit_395 : decode cX15_doesFit 395 = .ok (.iaload, 1) := by decide +kernel
set_option maxRecDepth 20000 in
theorem dX15_doesFit_396 : decode cX15_doesFit 396 = .ok (.iadd, 1) := by decide +kernel
set_option maxRecDepth 20000 in
theorem dX15_doesFit_397 : decode cX15_doesFit 397 = .ok (.if_icmp .ne 7, 3) := by decide +kernel
set_option maxRecDepth 20000 in
theorem dX15_doesFit_400 : decode cX15_doesFit 400 = .ok (.iconst 1, 1) := by decide +kernel
set_option maxRecDepth 20000 in
theorem dX15_doesFit_401 : decode cX15_doesFit 401 = .ok (.goto 4, 3) := by decide +kernel
set_option maxRecDepth 20000 in
theorem dX15_doesFit_404 : decode cX15_doesFit 404 = .ok (.iconst 0, 1) := by decide +kernel
set_option maxRecDepth 20000 in
theorem dX15_doesFit_405 : decode cX15_doesFit 405 = .ok (.ireturn, 1) := by decide +kernel
set_option maxRecDepth 20000 in
theorem dX15_doesFit_406 : decode cX15_doesFit 406 = .ok (.iload_n 3, 1) := by decide +kernel
set_option maxRecDepth 20000 in
theorem dX15_doesFit_407 : decode cX15_doesFit 407 = .ok (.iconst 2, 1) := by decide +kernel
set_option maxRecDepth 20000 in
theorem dX15_doesFit_408 : decode cX15_doesFit 408 = .ok (.if_icmp .lt 26, 3) := by decide +kernel
set_option maxRecDepth 20000 in
theorem dX15_doesFit_411 : decode cX15_doesFit 411 = .ok (.iload_n 3, 1) := by decide +kernel
set_option maxRecDepth 20000 in
theorem dX15_doesFit_412 : decode cX15_doesFit 412 = .ok (.iconst 2, 1) := by decide +kernel
set_option maxRecDepth 20000 in
theorem dX15_doesFit_413 : decode cX15_doesFit 413 = .ok (.aload_n 2, 1) := by decide +kernel
set_option maxRecDepth 20000 in
theorem dX15_doesFit_414 : decode cX15_doesFit 414 = .ok (.iconst 1, 1) := by decide +kernel
set_option maxRecDepth 20000 in
theorem dX15_doesFit_415 : decode cX15_doesFit 415 = .ok (.iaload, 1) := by decide +kernel
set_option maxRecDepth 20000 in
theorem dX15_doesFit_416 : decode cX15_doesFit 416 = .ok (.iadd, 1) := by decide +kernel
set_option maxRecDepth 20000 in
theorem dX15_doesFit_417 : decode cX15_doesFit 417 = .ok (.if_icmp .ne 17, 3) := by decide +kernel
set_option maxRecDepth 20000 in
theorem dX15_doesFit_420 : decode cX15_doesFit 420 = .ok (.aload_n 0, 1) := by decide +kernel
set_option maxRecDepth 20000 in
theorem dX15_doesFit_421 : decode cX15_doesFit 421 = .ok (.iload_n 1, 1) := by decide +kernel
set_option maxRecDepth 20000 in
theorem dX15_doesFit_422 : decode cX15_doesFit 422 = .ok (.aload_n 2, 1) := by decide +kernel
set_option maxRecDepth 20000 in
theorem dX15_doesFit_423 : decode cX15_doesFit 423 = .ok (.iload_n 3, 1) := by decide +kernel
set_option maxRecDepth 20000 in
theorem dX15_doesFit_424 : decode cX15_doesFit 424 = .ok (.invokestatic 334, 3) := by decide +kernel
set_option maxRecDepth 20000 in
theorem dX15_doesFit_427 : decode cX15_doesFit 427 = .ok (.ifCond .eq 7, 3) := by decide +kernel
set_option maxRecDepth 20000 in
theorem dX15_doesFit_430 : decode cX15_doesFit 430 = .ok (.iconst 1, 1) := by decide +kernel
set_option maxRecDepth 20000 in
theorem dX15_doesFit_431 : decode cX15_doesFit 431 = .ok (.goto 4, 3) := by decide +kernel
set_option maxRecDepth 20000 in
theorem dX15_doesFit_434 : decode cX15_doesFit 434 = .ok (.iconst 0, 1) := by decide +kernel
set_option maxRecDepth 20000 in
theorem dX15_doesFit_435 : decode cX15_doesFit 435 = .ok (.ireturn, 1) := by decide +kernel
set_option maxRecDepth 20000 in
theorem dX15_doesFit_436 : decode cX15_doesFit 436 = .ok (.iload_n 3, 1) := by decide +kernel
set_option maxRecDepth 20000 in
theorem dX15_doesFit_437 : decode cX15_doesFit 437 = .ok (.iconst 5, 1) := by decide +kernel
set_option maxRecDepth 20000 in
theorem dX15_doesFit_438 : decode cX15_doesFit 438 = .ok (.if_icmp .lt 45, 3) := by decide +kernel
set_option maxRecDepth 20000 in
theorem dX15_doesFit_441 : decode cX15_doesFit 441 = .ok (.aload_n 2, 1) := by decide +kernel
set_option maxRecDepth 20000 in
theorem dX15_doesFit_442 : decode cX15_doesFit 442 = .ok (.iconst 1, 1) := by decide +kernel
set_option maxRecDepth 20000 in
theorem dX15_doesFit_443 : decode cX15_doesFit 443 = .ok (.invokestatic 85, 3) := by decide +kernel
set_option maxRecDepth 20000 in
theorem dX15_doesFit_446 : decode cX15_doesFit 446 = .ok (.iload_n 3, 1) := by decide +kernel
set_option maxRecDepth 20000 in
theorem dX15_doesFit_447 : decode cX15_doesFit 447 = .ok (.iconst 3, 1) := by decide +kernel
set_option maxRecDepth 20000 in
theorem dX15_doesFit_448 : decode cX15_doesFit 448 = .ok (.isub, 1) := by decide +kernel
set_option maxRecDepth 20000 in
theorem dX15_doesFit_449 : decode cX15_doesFit 449 = .ok (.if_icmp .ne 34, 3) := by decide +kernel
set_option maxRecDepth 20000 in
theorem dX15_doesFit_452 : decode cX15_doesFit 452 = .ok (.aload_n 2, 1) := by decide +kernel
set_option maxRecDepth 20000 in
theorem dX15_doesFit_453 : decode cX15_doesFit 453 = .ok (.iconst 3, 1) := by decide +kernel
set_option maxRecDepth 20000 in
theorem dX15_doesFit_454 : decode cX15_doesFit 454 = .ok (.invokestatic 85, 3) := by decide +kernel
set_option maxRecDepth 20000 in
theorem dX15_doesFit_457 : decode cX15_doesFit 457 = .ok (.bipush 31, 2) := by decide +kernel
set_option maxRecDepth 20000 in
theorem dX15_doesFit_459 : decode cX15_doesFit 459 = .ok (.if_icmp .gt 24, 3) := by decide +kernel
set_option maxRecDepth 20000 in
theorem dX15_doesFit_462 : decode cX15_doesFit 462 = .ok (.aload_n 2, 1) := by decide +kernel
set_option maxRecDepth 20000 in
theorem dX15_doesFit_463 : decode cX15_doesFit 463 = .ok (.iconst 1, 1) := by decide +kernel
set_option maxRecDepth 20000 in
theorem dX15_doesFit_464 : decode cX15_doesFit 464 = .ok (.invokestatic 85, 3) := by decide +kernel
set_option maxRecDepth 20000 in
theorem dX15_doesFit_467 : decode cX15_doesFit 467 = .ok (.iconst 2, 1) := by decide +kernel
set_option maxRecDepth 20000 in
theorem dX15_doesFit_468 : decode cX15_doesFit 468 = .ok (.iconst 2, 1) := by decide +kernel
set_option maxRecDepth 20000 in
theorem dX15_doesFit_469 : decode cX15_doesFit 469 = .ok (.aload_n 2, 1) := by decide +kernel
set_option maxRecDepth 20000 in
theorem dX15_doesFit_470 : decode cX15_doesFit 470 = .ok (.iconst 3, 1) := by decide +kernel
set_option maxRecDepth 20000 in
theorem dX15_doesFit_471 : decode cX15_doesFit 471 = .ok (.invokestatic 85, 3) := by decide +kernel
set_option maxRecDepth 20000 in
theorem dX15_doesFit_474 : decode cX15_doesFit 474 = .ok (.imul, 1) := by decide +kernel
set_option maxRecDepth 20000 in
theorem dX15_doesFit_475 : decode cX15_doesFit 475 = .ok (.iadd, 1) := by decide +kernel
set_option maxRecDepth 20000 in
theorem dX15_doesFit_476 : decode cX15_doesFit 476 = .ok (.if_icmp .ne 7, 3) := by decide +kernel
set_option maxRecDepth 20000 in
theorem dX15_doesFit_479 : decode cX15_doesFit 479 = .ok (.iconst 1, 1) := by decide +kernel
set_option maxRecDepth 20000 in
theorem dX15_doesFit_480 : decode cX15_doesFit 480 = .ok (.goto 4, 3) := by decide +kernel
set_option maxRecDepth 20000 in
theorem dX15_doesFit_483 : decode cX15_doesFit 483 = .ok (.iconst 0, 1) := by decide +kernel
set_option maxRecDepth 20000 in
theorem dX15_doesFit_484 : decode cX15_doesFit 484 = .ok (.ireturn, 1) := by decide +kernel
set_option maxRecDepth 20000 in
theorem dX15_doesFit_485 : decode cX15_doesFit 485 = .ok (.iload_n 3, 1) := by decide +kernel
set_option maxRecDepth 20000 in
theorem dX15_doesFit_486 : decode cX15_doesFit 486 = .ok (.bipush 7, 2) := by decide +kernel
set_option maxRecDepth 20000 in
theorem dX15_doesFit_488 : decode cX15_doesFit 488 = .ok (.if_icmp .lt 24, 3) := by decide +kernel
set_option maxRecDepth 20000 in
theorem dX15_doesFit_491 : decode cX15_doesFit 491 = .ok (.aload_n 0, 1) := by decide +kernel
set_option maxRecDepth 20000 in
theorem dX15_doesFit_492 : decode cX15_doesFit 492 = .ok (.aload_n 2, 1) := by decide +kernel
set_option maxRecDepth 20000 in
theorem dX15_doesFit_493 : decode cX15_doesFit 493 = .ok (.iconst 3, 1) := by decide +kernel
set_option maxRecDepth 20000 in
theorem dX15_doesFit_494 : decode cX15_doesFit 494 = .ok (.invokestatic 330, 3) := by decide +kernel
set_option maxRecDepth 20000 in
theorem dX15_doesFit_497 : decode cX15_doesFit 497 = .ok (.ifCond .eq 15, 3) := by decide +kernel
set_option maxRecDepth 20000 in
theorem dX15_doesFit_500 : decode cX15_doesFit 500 = .ok (.aload_n 2, 1) := by decide +kernel
set_option maxRecDepth 20000 in
theorem dX15_doesFit_501 : decode cX15_doesFit 501 = .ok (.iload_n 3, 1) := by decide +kernel
set_option maxRecDepth 20000 in
theorem dX15_doesFit_502 : decode cX15_doesFit 502 = .ok (.invokestatic 337, 3) := by decide +kernel
set_option maxRecDepth 20000 in
theorem dX15_doesFit_505 : decode cX15_doesFit 505 = .ok (.ifCond .eq 7, 3) := by decide +kernel
set_option maxRecDepth 20000 in
theorem dX15_doesFit_508 : decode cX15_doesFit 508 = .ok (.iconst 1, 1) := by decide +kernel
set_option maxRecDepth 20000 in
theorem dX15_doesFit_509 : decode cX15_doesFit 509 = .ok (.goto 4, 3) := by decide +kernel
set_option maxRecDepth 20000 in
theorem dX15_doesFit_512 : decode cX15_doesFit 512 = .ok (.iconst 0, 1) := by decide +kernel
set_option maxRecDepth 20000 in
theorem dX15_doesFit_513 : decode cX15_doesFit 513 = .ok (.ireturn, 1) := by decide +kernel
set_option maxRecDepth 20000 in
theorem dX15_doPartsFit_0 : decode cX15_doPartsFit 0 = .ok (.iconst 2, 1) := by decide +kernel
set_option maxRecDepth 20000 in
theorem dX15_doPartsFit_1 : decode cX15_doPartsFit 1 = .ok (.istore 4, 2) := by decide +kernel
set_option maxRecDepth 20000 in
theorem dX15_doPartsFit_3 : decode cX15_doPartsFit 3 = .ok (.iconst 1, 1) := by decide +kernel
set_option maxRecDepth 20000 in
theorem dX15_doPartsFit_4 : decode cX15_doPartsFit 4 = .ok (.istore 5, 2) := by decide +kernel
set_option maxRecDepth 20000 in
theorem dX15_doPartsFit_6 : decode cX15_doPartsFit 6 = .ok (.iconst 2, 1) := by decide +kernel
set_option maxRecDepth 20000 in
theorem dX15_doPartsFit_7 : decode cX15_doPartsFit 7 = .ok (.istore 6, 2) := by decide +kernel
set_option maxRecDepth 20000 in
theorem dX15_doPartsFit_9 : decode cX15_doPartsFit 9 = .ok (.iload 6, 2) := by decide +kernel
set_option maxRecDepth 20000 in
theorem dX15_doPartsFit_11 : decode cX15_doPartsFit 11 = .ok (.iload_n 1, 1) := by decide +kernel
set_option maxRecDepth 20000 in
theorem dX15_doPartsFit_12 : decode cX15_doPartsFit 12 = .ok (.if_icmp .ge 79, 3) := by decide +kernel
set_option maxRecDepth 20000 in
theorem dX15_doPartsFit_15 : decode cX15_doPartsFit 15 = .ok (.iload 5, 2) := by decide +kernel
set_option maxRecDepth 20000 in
theorem dX15_doPartsFit_17 : decode cX15_doPartsFit 17 = .ok (.ifCond .eq 74, 3) := by decide +kernel
set_option maxRecDepth 20000 in
theorem dX15_doPartsFit_20 : decode cX15_doPartsFit 20 = .ok (.aload_n 0, 1) := by decide +kernel
set_option maxRecDepth 20000 in
theorem dX15_doPartsFit_21 : decode cX15_doPartsFit 21 = .ok (.iload 6, 2) := by decide +kernel
set_option maxRecDepth 20000 in
theorem dX15_doPartsFit_23 : decode cX15_doPartsFit 23 = .ok (.iconst 5, 1) := by decide +kernel
set_option maxRecDepth 20000 in
theorem dX15_doPartsFit_24 : decode cX15_doPartsFit 24 = .ok (.iadd, 1) := by decide +kernel
set_option maxRecDepth 20000 in
theorem dX15_doPartsFit_25 : decode cX15_doPartsFit 25 = .ok (.invokestatic 85, 3) := by decide +kernel
set_option maxRecDepth 20000 in
theorem dX15_doPartsFit_28 : decode cX15_doPartsFit 28 = .ok (.istore 7, 2) := by decide +kernel
set_option maxRecDepth 20000 in
theorem dX15_doPartsFit_30 : decode cX15_doPartsFit 30 = .ok (.iload 4, 2) := by decide +kernel
set_option maxRecDepth 20000 in
theorem dX15_doPartsFit_32 : decode cX15_doPartsFit 32 = .ok (.iconst 2, 1) := by decide +kernel
set_option maxRecDepth 20000 in
theorem dX15_doPartsFit_33 : decode cX15_doPartsFit 33 = .ok (.iadd, 1) := by decide +kernel
set_option maxRecDepth 20000 in
theorem dX15_doPartsFit_34 : decode cX15_doPartsFit 34 = .ok (.iconst 2, 1) := by decide +kernel
set_option maxRecDepth 20000 in
theorem dX15_doPartsFit_35 : decode cX15_doPartsFit 35 = .ok (.iload 7, 2) := by decide +kernel
set_option maxRecDepth 20000 in
theorem dX15_doPartsFit_37 : decode cX15_doPartsFit 37 = .ok (.imul, 1) := by decide +kernel
set_option maxRecDepth 20000 in
theorem dX15_doPartsFit_38 : decode cX15_doPartsFit 38 = .ok (.iadd, 1) := by decide +kernel
set_option maxRecDepth 20000 in
theorem dX15_doPartsFit_39 : decode cX15_doPartsFit 39 = .ok (.iload_n 3, 1) := by decide +kernel
set_option maxRecDepth 20000 in
theorem dX15_doPartsFit_40 : decode cX15_doPartsFit 40 = .ok (.if_icmp .gt 31, 3) := by decide +kernel
set_option maxRecDepth 20000 in
theorem dX15_doPartsFit_43 : decode cX15_doPartsFit 43 = .ok (.aload_n 2, 1) := by decide +kernel
set_option maxRecDepth 20000 in
theorem dX15_doPartsFit_44 : decode cX15_doPartsFit 44 = .ok (.iload 4, 2) := by decide +kernel
set_option maxRecDepth 20000 in
theorem dX15_doPartsFit_46 : decode cX15_doPartsFit 46 = .ok (.iaload, 1) := by decide +kernel
set_option maxRecDepth 20000 in
theorem dX15_doPartsFit_47 : decode cX15_doPartsFit 47 = .ok (.iconst 1, 1) := by decide +kernel
set_option maxRecDepth 20000 in
theorem dX15_doPartsFit_48 : decode cX15_doPartsFit 48 = .ok (.iconst 2, 1) := by decide +kernel
set_option maxRecDepth 20000 in
theorem dX15_doPartsFit_49 : decode cX15_doPartsFit 49 = .ok (.iload 7, 2) := by decide +kernel
set_option maxRecDepth 20000 in
theorem dX15_doPartsFit_51 : decode cX15_doPartsFit 51 = .ok (.imul, 1) := by decide +kernel
set_option maxRecDepth 20000 in
theorem dX15_doPartsFit_52 : decode cX15_doPartsFit 52 = .ok (.iadd, 1) := by decide +kernel
set_option maxRecDepth 20000 in
theorem dX15_doPartsFit_53 : decode cX15_doPartsFit 53 = .ok (.if_icmp .ne 18, 3) := by decide +kernel
set_option maxRecDepth 20000 in
theorem dX15_doPartsFit_56 : decode cX15_doPartsFit 56 = .ok (.aload_n 2, 1) := by decide +kernel
set_option maxRecDepth 20000 in
theorem dX15_doPartsFit_57 : decode cX15_doPartsFit 57 = .ok (.iload 4, 2) := by decide +kernel
set_option maxRecDepth 20000 in
theorem dX15_doPartsFit_59 : decode cX15_doPartsFit 59 = .ok (.iconst 1, 1) := by decide +kernel
set_option maxRecDepth 20000 in
theorem dX15_doPartsFit_60 : decode cX15_doPartsFit 60 = .ok (.iadd, 1) := by decide +kernel
set_option maxRecDepth 20000 in
theorem dX15_doPartsFit_61 : decode cX15_doPartsFit 61 = .ok (.iaload, 1) := by decide +kernel
set_option maxRecDepth 20000 in
theorem dX15_doPartsFit_62 : decode cX15_doPartsFit 62 = .ok (.bipush 6, 2) := by decide +kernel
set_option maxRecDepth 20000 in
theorem dX15_doPartsFit_64 : decode cX15_doPartsFit 64 = .ok (.if_icmp .ne 7, 3) := by decide +kernel
set_option maxRecDepth 20000 in
theorem dX15_doPartsFit_67 : decode cX15_doPartsFit 67 = .ok (.iconst 1, 1) := by decide +kernel
set_option maxRecDepth 20000 in
theorem dX15_doPartsFit_68 : decode cX15_doPartsFit 68 = .ok (.goto 4, 3) := by decide +kernel
set_option maxRecDepth 20000 in
theorem dX15_doPartsFit_71 : decode cX15_doPartsFit 71 = .ok (.iconst 0, 1) := by decide +kernel
set_option maxRecDepth 20000 in
theorem dX15_doPartsFit_72 : decode cX15_doPartsFit 72 = .ok (.istore 5, 2) := by decide +kernel
set_option maxRecDepth 20000 in
theorem dX15_doPartsFit_74 : decode cX15_doPartsFit 74 = .ok (.iload 4, 2) := by decide +kernel
set_option maxRecDepth 20000 in
theorem dX15_doPartsFit_76 : decode cX15_doPartsFit 76 = .ok (.iconst 2, 1) := by decide +kernel
set_option maxRecDepth 20000 in
theorem dX15_doPartsFit_77 : decode cX15_doPartsFit 77 = .ok (.iconst 2, 1) := by decide +kernel
set_option maxRecDepth 20000 in
theorem dX15_doPartsFit_78 : decode cX15_doPartsFit 78 = .ok (.iload 7, 2) := by decide +kernel
set_option maxRecDepth 20000 in
theorem dX15_doPartsFit_80 : decode cX15_doPartsFit 80 = .ok (.imul, 1) := by decide +kernel
set_option maxRecDepth 20000 in
theorem dX15_doPartsFit_81 : decode cX15_doPartsFit 81 = .ok (.iadd, 1) := by decide +kernel
set_option maxRecDepth 20000 in
theorem dX15_doPartsFit_82 : decode cX15_doPartsFit 82 = .ok (.iadd, 1) := by decide +kernel
set_option maxRecDepth 20000 in
theorem dX15_doPartsFit_83 : decode cX15_doPartsFit 83 = .ok (.istore 4, 2) := by decide +kernel
set_option maxRecDepth 20000 in
theorem dX15_doPartsFit_85 : decode cX15_doPartsFit 85 = .ok (.iinc 6 7, 3) := by decide +kernel
set_option maxRecDepth 20000 in
theorem dX15_doPartsFit_88 : decode cX15_doPartsFit 88 = .ok (.goto (-79), 3) := by decide +kernel
set_option maxRecDepth 20000 in
theorem dX15_doPartsFit_91 : decode cX15_doPartsFit 91 = .ok (.iload 5, 2) := by decide +kernel
set_option maxRecDepth 20000 in
theorem dX15_doPartsFit_93 : decode cX15_doPartsFit 93 = .ok (.ifCond .eq 13, 3) := by decide +kernel
set_option maxRecDepth 20000 in
theorem dX15_doPartsFit_96 : decode cX15_doPartsFit 96 = .ok (.iload 4, 2) := by decide +kernel
set_option maxRecDepth 20000 in
theorem dX15_doPartsFit_98 : decode cX15_doPartsFit 98 = .ok (.iload_n 3, 1) := by decide +kernel
set_option maxRecDepth 20000 in
theorem dX15_doPartsFit_99 : decode cX15_doPartsFit 99 = .ok (.if_icmp .ne 7, 3) := by decide +kernel
set_option maxRecDepth 20000 in
theorem dX15_doPartsFit_102 : decode cX15_doPartsFit 102 = .ok (.iconst 1, 1) := by decide +kernel
set_option maxRecDepth 20000 in
theorem dX15_doPartsFit_103 : decode cX15_doPartsFit 103 = .ok (.goto 4, 3) := by decide +kernel
set_option maxRecDepth 20000 in
theorem dX15_doPartsFit_106 : decode cX15_doPartsFit 106 = .ok (.iconst 0, 1) := by decide +kernel
set_option maxRecDepth 20000 in
theorem dX15_doPartsFit_107 : decode cX15_doPartsFit 107 = .ok (.ireturn, 1) := by decide +kernel
set_option maxRecDepth 20000 in
theorem dX15_doNamesFit_0 : decode cX15_doNamesFit 0 = .ok (.bipush 7, 2) := by decide +kernel
set_option maxRecDepth 20000 in
theorem dX15_doNamesFit_2 : decode cX15_doNamesFit 2 = .ok (.istore_n 2, 1) := by decide +kernel
set_option maxRecDepth 20000 in
theorem dX15_doNamesFit_3 : decode cX15_doNamesFit 3 = .ok (.iconst 1, 1) := by decide +kernel
set_option maxRecDepth 20000 in
theorem dX15_doNamesFit_4 : decode cX15_doNamesFit 4 = .ok (.istore_n 3, 1) := by decide +kernel
set_option maxRecDepth 20000 in
theorem dX15_doNamesFit_5 : decode cX15_doNamesFit 5 = .ok (.iconst 0, 1) := by decide +kernel
set_option maxRecDepth 20000 in
theorem dX15_doNamesFit_6 : decode cX15_doNamesFit 6 = .ok (.istore 4, 2) := by decide +kernel
set_option maxRecDepth 20000 in
theorem dX15_doNamesFit_8 : decode cX15_doNamesFit 8 = .ok (.iload 4, 2) := by decide +kernel
set_option maxRecDepth 20000 in
theorem dX15_doNamesFit_10 : decode cX15_doNamesFit 10 = .ok (.aload_n 0, 1) := by decide +kernel
set_option maxRecDepth 20000 in
theorem dX15_doNamesFit_11 : decode cX15_doNamesFit 11 = .ok (.bipush 6, 2) := by decide +kernel
set_option maxRecDepth 20000 in
theorem dX15_doNamesFit_13 : decode cX15_doNamesFit 13 = .ok (.iaload, 1) := by decide +kernel
set_option maxRecDepth 20000 in
theorem dX15_doNamesFit_14 : decode cX15_doNamesFit 14 = .ok (.if_icmp .ge 53, 3) := by decide +kernel
set_option maxRecDepth 20000 in
theorem dX15_doNamesFit_17 : decode cX15_doNamesFit 17 = .ok (.iload_n 3, 1) := by decide +kernel
set_option maxRecDepth 20000 in
theorem dX15_doNamesFit_18 : decode cX15_doNamesFit 18 = .ok (.ifCond .eq 49, 3) := by decide +kernel
set_option maxRecDepth 20000 in
theorem dX15_doNamesFit_21 : decode cX15_doNamesFit 21 = .ok (.iload_n 2, 1) := by decide +kernel
set_option maxRecDepth 20000 in
theorem dX15_doNamesFit_22 : decode cX15_doNamesFit 22 = .ok (.iconst 2, 1) := by decide +kernel
set_option maxRecDepth 20000 in
theorem dX15_doNamesFit_23 : decode cX15_doNamesFit 23 = .ok (.iadd, 1) := by decide +kernel
set_option maxRecDepth 20000 in
theorem dX15_doNamesFit_24 : decode cX15_doNamesFit 24 = .ok (.iload_n 1, 1) := by decide +kernel
set_option maxRecDepth 20000 in
theorem dX15_doNamesFit_25 : decode cX15_doNamesFit 25 = .ok (.if_icmp .gt 20, 3) := by decide +kernel
set_option maxRecDepth 20000 in
theorem dX15_doNamesFit_28 : decode cX15_doNamesFit 28 = .ok (.iload_n 2, 1) := by decide +kernel
set_option maxRecDepth 20000 in
theorem dX15_doNamesFit_29 : decode cX15_doNamesFit 29 = .ok (.iconst 2, 1) := by decide +kernel
set_option maxRecDepth 20000 in
theorem dX15_doNamesFit_30 : decode cX15_doNamesFit 30 = .ok (.iadd, 1) := by decide +kernel
set_option maxRecDepth 20000 in
theorem dX15_doNamesFit_31 : decode cX15_doNamesFit 31 = .ok (.aload_n 0, 1) := by decide +kernel
set_option maxRecDepth 20000 in
theorem dX15_doNamesFit_32 : decode cX15_doNamesFit 32 = .ok (.iload_n 2, 1) := by decide +kernel
set_option maxRecDepth 20000 in
theorem dX15_doNamesFit_33 : decode cX15_doNamesFit 33 = .ok (.iconst 1, 1) := by decide +kernel
set_option maxRecDepth 20000 in
theorem dX15_doNamesFit_34 : decode cX15_doNamesFit 34 = .ok (.iadd, 1) := by decide +kernel
set_option maxRecDepth 20000 in
theorem dX15_doNamesFit_35 : decode cX15_doNamesFit 35 = .ok (.iaload, 1) := by decide +kernel
set_option maxRecDepth 20000 in
theorem dX15_doNamesFit_36 : decode cX15_doNamesFit 36 = .ok (.iadd, 1) := by decide +kernel
set_option maxRecDepth 20000 in
theorem dX15_doNamesFit_37 : decode cX15_doNamesFit 37 = .ok (.iload_n 1, 1) := by decide +kernel
set_option maxRecDepth 20000 in
theorem dX15_doNamesFit_38 : decode cX15_doNamesFit 38 = .ok (.if_icmp .gt 7, 3) := by decide +kernel
set_option maxRecDepth 20000 in
theorem dX15_doNamesFit_41 : decode cX15_doNamesFit 41 = .ok (.iconst 1, 1) := by decide +kernel
set_option maxRecDepth 20000 in
theorem dX15_doNamesFit_42 : decode cX15_doNamesFit 42 = .ok (.goto 4, 3) := by decide +kernel
set_option maxRecDepth 20000 in
theorem dX15_doNamesFit_45 : decode cX15_doNamesFit 45 = .ok (.iconst 0, 1) := by decide +kernel
set_option maxRecDepth 20000 in
theorem dX15_doNamesFit_46 : decode cX15_doNamesFit 46 = .ok (.istore_n 3, 1) := by decide +kernel
set_option maxRecDepth 20000 in
theorem dX15_doNamesFit_47 : decode cX15_doNamesFit 47 = .ok (.iload_n 3, 1) := by decide +kernel
set_option maxRecDepth 20000 in
theorem dX15_doNamesFit_48 : decode cX15_doNamesFit 48 = .ok (.ifCond .eq 13, 3) := by decide +kernel
set_option maxRecDepth 20000 in
theorem dX15_doNamesFit_51 : decode cX15_doNamesFit 51 = .ok (.iload_n 2, 1) := by decide +kernel
set_option maxRecDepth 20000 in
theorem dX15_doNamesFit_52 : decode cX15_doNamesFit 52 = .ok (.iconst 2, 1) := by decide +kernel
set_option maxRecDepth 20000 in
theorem dX15_doNamesFit_53 : decode cX15_doNamesFit 53 = .ok (.aload_n 0, 1) := by decide +kernel
set_option maxRecDepth 20000 in
theorem dX15_doNamesFit_54 : decode cX15_doNamesFit 54 = .ok (.iload_n 2, 1) := by decide +kernel
set_option maxRecDepth 20000 in
theorem dX15_doNamesFit_55 : decode cX15_doNamesFit 55 = .ok (.iconst 1, 1) := by decide +kernel
set_option maxRecDepth 20000 in
theorem dX15_doNamesFit_56 : decode cX15_doNamesFit 56 = .ok (.iadd, 1) := by decide +kernel
set_option maxRecDepth 20000 in
theorem dX15_doNamesFit_57 : decode cX15_doNamesFit 57 = .ok (.iaload, 1) := by decide +kernel
set_option maxRecDepth 20000 in
theorem dX15_doNamesFit_58 : decode cX15_doNamesFit 58 = .ok (.iadd, 1) := by decide +kernel
set_option maxRecDepth 20000 in
theorem dX15_doNamesFit_59 : decode cX15_doNamesFit 59 = .ok (.iadd, 1) := by decide +kernel
set_option maxRecDepth 20000 in
theorem dX15_doNamesFit_60 : decode cX15_doNamesFit 60 = .ok (.istore_n 2, 1) := by decide +kernel
set_option maxRecDepth 20000 in
theorem dX15_doNamesFit_61 : decode cX15_doNamesFit 61 = .ok (.iinc 4 1, 3) := by decide +kernel
set_option maxRecDepth 20000 in
theorem dX15_doNamesFit_64 : decode cX15_doNamesFit 64 = .ok (.goto (-56), 3) := by decide +kernel
set_option maxRecDepth 20000 in
theorem dX15_doNamesFit_67 : decode cX15_doNamesFit 67 = .ok (.iload_n 3, 1) := by decide +kernel
set_option maxRecDepth 20000 in
theorem dX15_doNamesFit_68 : decode cX15_doNamesFit 68 = .ok (.ifCond .eq 12, 3) := by decide +kernel
set_option maxRecDepth 20000 in
theorem dX15_doNamesFit_71 : decode cX15_doNamesFit 71 = .ok (.iload_n 2, 1) := by decide +kernel
set_option maxRecDepth 20000 in
theorem dX15_doNamesFit_72 : decode cX15_doNamesFit 72 = .ok (.iload_n 1, 1) := by decide +kernel
set_option maxRecDepth 20000 in
theorem dX15_doNamesFit_73 : decode cX15_doNamesFit 73 = .ok (.if_icmp .ne 7, 3) := by decide +kernel
set_option maxRecDepth 20000 in
theorem dX15_doNamesFit_76 : decode cX15_doNamesFit 76 = .ok (.iconst 1, 1) := by decide +kernel
set_option maxRecDepth 20000 in
theorem dX15_doNamesFit_77 : decode cX15_doNamesFit 77 = .ok (.goto 4, 3) := by decide +kernel
set_option maxRecDepth 20000 in
theorem dX15_doNamesFit_80 : decode cX15_doNamesFit 80 = .ok (.iconst 0, 1) := by decide +kernel
set_option maxRecDepth 20000 in
theorem dX15_doNamesFit_81 : decode cX15_doNamesFit 81 = .ok (.ireturn, 1) := by decide +kernel
set_option maxRecDepth 20000 in
theorem dX15_sends_0 : decode cX15_sends 0 = .ok (.aload_n 0, 1) := by decide +kernel
set_option maxRecDepth 20000 in
theorem dX15_sends_1 : decode cX15_sends 1 = .ok (.iload_n 1, 1) := by decide +kernel
set_option maxRecDepth 20000 in
theorem dX15_sends_2 : decode cX15_sends 2 = .ok (.putfield 340, 3) := by decide +kernel
set_option maxRecDepth 20000 in
theorem dX15_sends_5 : decode cX15_sends 5 = .ok (.aload_n 0, 1) := by decide +kernel
set_option maxRecDepth 20000 in
theorem dX15_sends_6 : decode cX15_sends 6 = .ok (.getfield 57, 3) := by decide +kernel
set_option maxRecDepth 20000 in
theorem dX15_sends_9 : decode cX15_sends 9 = .ok (.iconst 0, 1) := by decide +kernel
set_option maxRecDepth 20000 in
theorem dX15_sends_10 : decode cX15_sends 10 = .ok (.iload_n 2, 1) := by decide +kernel
set_option maxRecDepth 20000 in
theorem dX15_sends_11 : decode cX15_sends 11 = .ok (.iastore, 1) := by decide +kernel
set_option maxRecDepth 20000 in
theorem dX15_sends_12 : decode cX15_sends 12 = .ok (.iconst 0, 1) := by decide +kernel
set_option maxRecDepth 20000 in
theorem dX15_sends_13 : decode cX15_sends 13 = .ok (.istore 5, 2) := by decide +kernel
set_option maxRecDepth 20000 in
theorem dX15_sends_15 : decode cX15_sends 15 = .ok (.iload 5, 2) := by decide +kernel
set_option maxRecDepth 20000 in
theorem dX15_sends_17 : decode cX15_sends 17 = .ok (.iload 4, 2) := by decide +kernel
set_option maxRecDepth 20000 in
theorem dX15_sends_19 : decode cX15_sends 19 = .ok (.if_icmp .ge 22, 3) := by decide +kernel
set_option maxRecDepth 20000 in
theorem dX15_sends_22 : decode cX15_sends 22 = .ok (.aload_n 0, 1) := by decide +kernel
set_option maxRecDepth 20000 in
theorem dX15_sends_23 : decode cX15_sends 23 = .ok (.getfield 57, 3) := by decide +kernel
set_option maxRecDepth 20000 in
theorem dX15_sends_26 : decode cX15_sends 26 = .ok (.iconst 1, 1) := by decide +kernel
set_option maxRecDepth 20000 in
theorem dX15_sends_27 : decode cX15_sends 27 = .ok (.iload 5, 2) := by decide +kernel
set_option maxRecDepth 20000 in
theorem dX15_sends_29 : decode cX15_sends 29 = .ok (.iadd, 1) := by decide +kernel
set_option maxRecDepth 20000 in
theorem dX15_sends_30 : decode cX15_sends 30 = .ok (.aload_n 3, 1) := by decide +kernel
set_option maxRecDepth 20000 in
theorem dX15_sends_31 : decode cX15_sends 31 = .ok (.iload 5, 2) := by decide +kernel
set_option maxRecDepth 20000 in
theorem dX15_sends_33 : decode cX15_sends 33 = .ok (.iaload, 1) := by decide +kernel
set_option maxRecDepth 20000 in
theorem dX15_sends_34 : decode cX15_sends 34 = .ok (.iastore, 1) := by decide +kernel
set_option maxRecDepth 20000 in
theorem dX15_sends_35 : decode cX15_sends 35 = .ok (.iinc 5 1, 3) := by decide +kernel
set_option maxRecDepth 20000 in
theorem dX15_sends_38 : decode cX15_sends 38 = .ok (.goto (-23), 3) := by decide +kernel
set_option maxRecDepth 20000 in
theorem dX15_sends_41 : decode cX15_sends 41 = .ok (.aload_n 0, 1) := by decide +kernel
set_option maxRecDepth 20000 in
theorem dX15_sends_42 : decode cX15_sends 42 = .ok (.getfield 57, 3) := by decide +kernel
set_option maxRecDepth 20000 in
theorem dX15_sends_45 : decode cX15_sends 45 = .ok (.iload 4, 2) := by decide +kernel
set_option maxRecDepth 20000 in
theorem dX15_sends_47 : decode cX15_sends 47 = .ok (.iconst 1, 1) := by decide +kernel
set_option maxRecDepth 20000 in
theorem dX15_sends_48 : decode cX15_sends 48 = .ok (.iadd, 1) := by decide +kernel
set_option maxRecDepth 20000 in
theorem dX15_sends_49 : decode cX15_sends 49 = .ok (.invokestatic 343, 3) := by decide +kernel
set_option maxRecDepth 20000 in
theorem dX15_sends_52 : decode cX15_sends 52 = .ok (.istore 5, 2) := by decide +kernel
set_option maxRecDepth 20000 in
theorem dX15_sends_54 : decode cX15_sends 54 = .ok (.aload_n 0, 1) := by decide +kernel
set_option maxRecDepth 20000 in
theorem dX15_sends_55 : decode cX15_sends 55 = .ok (.getfield 57, 3) := by decide +kernel
set_option maxRecDepth 20000 in
theorem dX15_sends_58 : decode cX15_sends 58 = .ok (.iload 4, 2) := by decide +kernel
set_option maxRecDepth 20000 in
theorem dX15_sends_60 : decode cX15_sends 60 = .ok (.iconst 1, 1) := by decide +kernel
set_option maxRecDepth 20000 in
theorem dX15_sends_61 : decode cX15_sends 61 = .ok (.iadd, 1) := by decide +kernel
set_option maxRecDepth 20000 in
theorem dX15_sends_62 : decode cX15_sends 62 = .ok (.iload 5, 2) := by decide +kernel
set_option maxRecDepth 20000 in
theorem dX15_sends_64 : decode cX15_sends 64 = .ok (.sipush 256, 3) := by decide +kernel
set_option maxRecDepth 20000 in
theorem dX15_sends_67 : decode cX15_sends 67 = .ok (.irem, 1) := by decide +kernel
set_option maxRecDepth 20000 in
theorem dX15_sends_68 : decode cX15_sends 68 = .ok (.iastore, 1) := by decide +kernel
set_option maxRecDepth 20000 in
theorem dX15_sends_69 : decode cX15_sends 69 = .ok (.aload_n 0, 1) := by decide +kernel
set_option maxRecDepth 20000 in
theorem dX15_sends_70 : decode cX15_sends 70 = .ok (.getfield 57, 3) := by decide +kernel
set_option maxRecDepth 20000 in
theorem dX15_sends_73 : decode cX15_sends 73 = .ok (.iload 4, 2) := by decide +kernel
set_option maxRecDepth 20000 in
theorem dX15_sends_75 : decode cX15_sends 75 = .ok (.iconst 2, 1) := by decide +kernel
set_option maxRecDepth 20000 in
theorem dX15_sends_76 : decode cX15_sends 76 = .ok (.iadd, 1) := by decide +kernel
set_option maxRecDepth 20000 in
theorem dX15_sends_77 : decode cX15_sends 77 = .ok (.iload 5, 2) := by decide +kernel
set_option maxRecDepth 20000 in
theorem dX15_sends_79 : decode cX15_sends 79 = .ok (.sipush 256, 3) := by decide +kernel
set_option maxRecDepth 20000 in
theorem dX15_sends_82 : decode cX15_sends 82 = .ok (.idiv, 1) := by decide +kernel
set_option maxRecDepth 20000 in
theorem dX15_sends_83 : decode cX15_sends 83 = .ok (.iastore, 1) := by decide +kernel
set_option maxRecDepth 20000 in
theorem dX15_sends_84 : decode cX15_sends 84 = .ok (.aload_n 0, 1) := by decide +kernel
set_option maxRecDepth 20000 in
theorem dX15_sends_85 : decode cX15_sends 85 = .ok (.iload 4, 2) := by decide +kernel
set_option maxRecDepth 20000 in
theorem dX15_sends_87 : decode cX15_sends 87 = .ok (.iconst 3, 1) := by decide +kernel
set_option maxRecDepth 20000 in
theorem dX15_sends_88 : decode cX15_sends 88 = .ok (.iadd, 1) := by decide +kernel
set_option maxRecDepth 20000 in
theorem dX15_sends_89 : decode cX15_sends 89 = .ok (.putfield 346, 3) := by decide +kernel
set_option maxRecDepth 20000 in
theorem dX15_sends_92 : decode cX15_sends 92 = .ok (.aload_n 0, 1) := by decide +kernel
set_option maxRecDepth 20000 in
theorem dX15_sends_93 : decode cX15_sends 93 = .ok (.iconst 0, 1) := by decide +kernel
set_option maxRecDepth 20000 in
theorem dX15_sends_94 : decode cX15_sends 94 = .ok (.putfield 349, 3) := by decide +kernel
set_option maxRecDepth 20000 in
theorem dX15_sends_97 : decode cX15_sends 97 = .ok (.aload_n 0, 1) := by decide +kernel
set_option maxRecDepth 20000 in
theorem dX15_sends_98 : decode cX15_sends 98 = .ok (.iconst 0, 1) := by decide +kernel
set_option maxRecDepth 20000 in
theorem dX15_sends_99 : decode cX15_sends 99 = .ok (.putfield 352, 3) := by decide +kernel
set_option maxRecDepth 20000 in
theorem dX15_sends_102 : decode cX15_sends 102 = .ok (.aload_n 0, 1) := by decide +kernel
set_option maxRecDepth 20000 in
theorem dX15_sends_103 : decode cX15_sends 103 = .ok (.dup, 1) := by decide +kernel
set_option maxRecDepth 20000 in
theorem dX15_sends_104 : decode cX15_sends 104 = .ok (.getfield 355, 3) := by decide +kernel
set_option maxRecDepth 20000 in
theorem dX15_sends_107 : decode cX15_sends 107 = .ok (.iconst 1, 1) := by decide +kernel
set_option maxRecDepth 20000 in
theorem dX15_sends_108 : decode cX15_sends 108 = .ok (.iadd, 1) := by decide +kernel
set_option maxRecDepth 20000 in
theorem dX15_sends_109 : decode cX15_sends 109 = .ok (.putfield 355, 3) := by decide +kernel
set_option maxRecDepth 20000 in
theorem dX15_sends_112 : decode cX15_sends 112 = .ok (.return_, 1) := by decide +kernel
set_option maxRecDepth 20000 in
theorem dX15_begins_0 : decode cX15_begins 0 = .ok (.aload_n 0, 1) := by decide +kernel
set_option maxRecDepth 20000 in
theorem dX15_begins_1 : decode cX15_begins 1 = .ok (.getfield 306, 3) := by decide +kernel
set_option maxRecDepth 20000 in
theorem dX15_begins_4 : decode cX15_begins 4 = .ok (.ifCond .ne 68, 3) := by decide +kernel
set_option maxRecDepth 20000 in
theorem dX15_begins_7 : decode cX15_begins 7 = .ok (.aload_n 0, 1) := by decide +kernel
set_option maxRecDepth 20000 in
theorem dX15_begins_8 : decode cX15_begins 8 = .ok (.getfield 44, 3) := by decide +kernel
set_option maxRecDepth 20000 in
theorem dX15_begins_11 : decode cX15_begins 11 = .ok (.getfield 298, 3) := by decide +kernel
set_option maxRecDepth 20000 in
theorem dX15_begins_14 : decode cX15_begins 14 = .ok (.ifCond .le 58, 3) := by decide +kernel
set_option maxRecDepth 20000 in
theorem dX15_begins_17 : decode cX15_begins 17 = .ok (.aload_n 0, 1) := by decide +kernel
set_option maxRecDepth 20000 in
theorem dX15_begins_18 : decode cX15_begins 18 = .ok (.getfield 44, 3) := by decide +kernel
set_option maxRecDepth 20000 in
theorem dX15_begins_21 : decode cX15_begins 21 = .ok (.getfield 292, 3) := by decide +kernel
set_option maxRecDepth 20000 in
theorem dX15_begins_24 : decode cX15_begins 24 = .ok (.iconst 0, 1) := by decide +kernel
set_option maxRecDepth 20000 in
theorem dX15_begins_25 : decode cX15_begins 25 = .ok (.aaload, 1) := by decide +kernel
set_option maxRecDepth 20000 in
theorem dX15_begins_26 : decode cX15_begins 26 = .ok (.iconst 2, 1) := by decide +kernel
set_option maxRecDepth 20000 in
theorem dX15_begins_27 : decode cX15_begins 27 = .ok (.dup2, 1) := by decide +kernel
set_option maxRecDepth 20000 in
theorem dX15_begins_28 : decode cX15_begins 28 = .ok (.iaload, 1) := by decide +kernel
set_option maxRecDepth 20000 in
theorem dX15_begins_29 : decode cX15_begins 29 = .ok (.iconst 1, 1) := by decide +kernel
set_option maxRecDepth 20000 in
theorem dX15_begins_30 : decode cX15_begins 30 = .ok (.iadd, 1) := by decide +kernel
set_option maxRecDepth 20000 in
theorem dX15_begins_31 : decode cX15_begins 31 = .ok (.iastore, 1) := by decide +kernel
set_option maxRecDepth 20000 in
theorem dX15_begins_32 : decode cX15_begins 32 = .ok (.aload_n 0, 1) := by decide +kernel
set_option maxRecDepth 20000 in
theorem dX15_begins_33 : decode cX15_begins 33 = .ok (.iconst 1, 1) := by decide +kernel
set_option maxRecDepth 20000 in
theorem dX15_begins_34 : decode cX15_begins 34 = .ok (.putfield 306, 3) := by decide +kernel
set_option maxRecDepth 20000 in
theorem dX15_begins_37 : decode cX15_begins 37 = .ok (.aload_n 0, 1) := by decide +kernel
set_option maxRecDepth 20000 in
theorem dX15_begins_38 : decode cX15_begins 38 = .ok (.iconst 1, 1) := by decide +kernel
set_option maxRecDepth 20000 in
theorem dX15_begins_39 : decode cX15_begins 39 = .ok (.aload_n 0, 1) := by decide +kernel
set_option maxRecDepth 20000 in
theorem dX15_begins_40 : decode cX15_begins 40 = .ok (.getfield 44, 3) := by decide +kernel
set_option maxRecDepth 20000 in
theorem dX15_begins_43 : decode cX15_begins 43 = .ok (.getfield 292, 3) := by decide +kernel
set_option maxRecDepth 20000 in
theorem dX15_begins_46 : decode cX15_begins 46 = .ok (.iconst 0, 1) := by decide +kernel
set_option maxRecDepth 20000 in
theorem dX15_begins_47 : decode cX15_begins 47 = .ok (.aaload, 1) := by decide +kernel
set_option maxRecDepth 20000 in
theorem dX15_begins_48 : decode cX15_begins 48 = .ok (.iconst 0, 1) := by decide +kernel
set_option maxRecDepth 20000 in
theorem dX15_begins_49 : decode cX15_begins 49 = .ok (.iaload, 1) := by decide +kernel
set_option maxRecDepth 20000 in
theorem dX15_begins_50 : decode cX15_begins 50 = .ok (.aload_n 0, 1) := by decide +kernel
set_option maxRecDepth 20000 in
theorem dX15_begins_51 : decode cX15_begins 51 = .ok (.getfield 44, 3) := by decide +kernel
set_option maxRecDepth 20000 in
theorem dX15_begins_54 : decode cX15_begins 54 = .ok (.getfield 321, 3) := by decide +kernel
set_option maxRecDepth 20000 in
theorem dX15_begins_57 : decode cX15_begins 57 = .ok (.iconst 0, 1) := by decide +kernel
set_option maxRecDepth 20000 in
theorem dX15_begins_58 : decode cX15_begins 58 = .ok (.aaload, 1) := by decide +kernel
set_option maxRecDepth 20000 in
theorem dX15_begins_59 : decode cX15_begins 59 = .ok (.aload_n 0, 1) := by decide +kernel
set_option maxRecDepth 20000 in
theorem dX15_begins_60 : decode cX15_begins 60 = .ok (.getfield 44, 3) := by decide +kernel
set_option maxRecDepth 20000 in
theorem dX15_begins_63 : decode cX15_begins 63 = .ok (.getfield 323, 3) := by decide +kernel
set_option maxRecDepth 20000 in
theorem dX15_begins_66 : decode cX15_begins 66 = .ok (.iconst 0, 1) := by decide +kernel
set_option maxRecDepth 20000 in
theorem dX15_begins_67 : decode cX15_begins 67 = .ok (.iaload, 1) := by decide +kernel
set_option maxRecDepth 20000 in
theorem dX15_begins_68 : decode cX15_begins 68 = .ok (.invokevirtual 358, 3) := by decide +kernel
set_option maxRecDepth 20000 in
theorem dX15_begins_71 : decode cX15_begins 71 = .ok (.return_, 1) := by decide +kernel
set_option maxRecDepth 20000 in
theorem dX15_begins_72 : decode cX15_begins 72 = .ok (.iconst 0, 1) := by decide +kernel
set_option maxRecDepth 20000 in
theorem dX15_begins_73 : decode cX15_begins 73 = .ok (.istore_n 1, 1) := by decide +kernel
set_option maxRecDepth 20000 in
theorem dX15_begins_74 : decode cX15_begins 74 = .ok (.iload_n 1, 1) := by decide +kernel
set_option maxRecDepth 20000 in
theorem dX15_begins_75 : decode cX15_begins 75 = .ok (.aload_n 0, 1) := by decide +kernel
set_option maxRecDepth 20000 in
theorem dX15_begins_76 : decode cX15_begins 76 = .ok (.getfield 78, 3) := by decide +kernel
set_option maxRecDepth 20000 in
theorem dX15_begins_79 : decode cX15_begins 79 = .ok (.if_icmp .ge 58, 3) := by decide +kernel
set_option maxRecDepth 20000 in
theorem dX15_begins_82 : decode cX15_begins 82 = .ok (.aload_n 0, 1) := by decide +kernel
set_option maxRecDepth 20000 in
theorem dX15_begins_83 : decode cX15_begins 83 = .ok (.getfield 9, 3) := by decide +kernel
set_option maxRecDepth 20000 in
theorem dX15_begins_86 : decode cX15_begins 86 = .ok (.iload_n 1, 1) := by decide +kernel
set_option maxRecDepth 20000 in
theorem dX15_begins_87 : decode cX15_begins 87 = .ok (.aaload, 1) := by decide +kernel
set_option maxRecDepth 20000 in
theorem dX15_begins_88 : decode cX15_begins 88 = .ok (.astore_n 2, 1) := by decide +kernel
set_option maxRecDepth 20000 in
theorem dX15_begins_89 : decode cX15_begins 89 = .ok (.aload_n 2, 1) := by decide +kernel
set_option maxRecDepth 20000 in
theorem dX15_begins_90 : decode cX15_begins 90 = .ok (.getfield 260, 3) := by decide +kernel
set_option maxRecDepth 20000 in
theorem dX15_begins_93 : decode cX15_begins 93 = .ok (.ifCond .eq 38, 3) := by decide +kernel
set_option maxRecDepth 20000 in
theorem dX15_begins_96 : decode cX15_begins 96 = .ok (.aload_n 2, 1) := by decide +kernel
set_option maxRecDepth 20000 in
theorem dX15_begins_97 : decode cX15_begins 97 = .ok (.getfield 266, 3) := by decide +kernel
set_option maxRecDepth 20000 in
theorem dX15_begins_100 : decode cX15_begins 100 = .ok (.ifCond .le 6, 3) := by decide +kernel
set_option maxRecDepth 20000 in
theorem dX15_begins_103 : decode cX15_begins 103 = .ok (.goto 28, 3) := by decide +kernel
set_option maxRecDepth 20000 in
theorem dX15_begins_106 : decode cX15_begins 106 = .ok (.aload_n 0, 1) := by decide +kernel
set_option maxRecDepth 20000 in
theorem dX15_begins_107 : decode cX15_begins 107 = .ok (.iconst 2, 1) := by decide +kernel
set_option maxRecDepth 20000 in
theorem dX15_begins_108 : decode cX15_begins 108 = .ok (.iload_n 1, 1) := by decide +kernel
set_option maxRecDepth 20000 in
theorem dX15_begins_109 : decode cX15_begins 109 = .ok (.iadd, 1) := by decide +kernel
set_option maxRecDepth 20000 in
theorem dX15_begins_110 : decode cX15_begins 110 = .ok (.aload_n 2, 1) := by decide +kernel
set_option maxRecDepth 20000 in
theorem dX15_begins_111 : decode cX15_begins 111 = .ok (.getfield 248, 3) := by decide +kernel
set_option maxRecDepth 20000 in
theorem dX15_begins_114 : decode cX15_begins 114 = .ok (.aload_n 2, 1) := by decide +kernel
set_option maxRecDepth 20000 in
theorem dX15_begins_115 : decode cX15_begins 115 = .ok (.getfield 257, 3) := by decide +kernel
set_option maxRecDepth 20000 in
theorem dX15_begins_118 : decode cX15_begins 118 = .ok (.aload_n 2, 1) := by decide +kernel
set_option maxRecDepth 20000 in
theorem dX15_begins_119 : decode cX15_begins 119 = .ok (.getfield 260, 3) := by decide +kernel
set_option maxRecDepth 20000 in
theorem dX15_begins_122 : decode cX15_begins 122 = .ok (.invokevirtual 358, 3) := by decide +kernel
set_option maxRecDepth 20000 in
theorem dX15_begins_125 : decode cX15_begins 125 = .ok (.aload_n 2, 1) := by decide +kernel
set_option maxRecDepth 20000 in
theorem dX15_begins_126 : decode cX15_begins 126 = .ok (.iconst 0, 1) := by decide +kernel
set_option maxRecDepth 20000 in
theorem dX15_begins_127 : decode cX15_begins 127 = .ok (.putfield 260, 3) := by decide +kernel
set_option maxRecDepth 20000 in
theorem dX15_begins_130 : decode cX15_begins 130 = .ok (.return_, 1) := by decide +kernel
set_option maxRecDepth 20000 in
theorem dX15_begins_131 : decode cX15_begins 131 = .ok (.iinc 1 1, 3) := by decide +kernel
set_option maxRecDepth 20000 in
theorem dX15_begins_134 : decode cX15_begins 134 = .ok (.goto (-60), 3) := by decide +kernel
set_option maxRecDepth 20000 in
theorem dX15_begins_137 : decode cX15_begins 137 = .ok (.return_, 1) := by decide +kernel
set_option maxRecDepth 20000 in
theorem dX15_isInRow_0 : decode cX15_isInRow 0 = .ok (.iconst 0, 1) := by decide +kernel
set_option maxRecDepth 20000 in
theorem dX15_isInRow_1 : decode cX15_isInRow 1 = .ok (.istore_n 2, 1) := by decide +kernel
set_option maxRecDepth 20000 in
theorem dX15_isInRow_2 : decode cX15_isInRow 2 = .ok (.iconst 0, 1) := by decide +kernel
set_option maxRecDepth 20000 in
theorem dX15_isInRow_3 : decode cX15_isInRow 3 = .ok (.istore_n 3, 1) := by decide +kernel
set_option maxRecDepth 20000 in
theorem dX15_isInRow_4 : decode cX15_isInRow 4 = .ok (.iload_n 3, 1) := by decide +kernel
set_option maxRecDepth 20000 in
theorem dX15_isInRow_5 : decode cX15_isInRow 5 = .ok (.aload_n 0, 1) := by decide +kernel
set_option maxRecDepth 20000 in
theorem dX15_isInRow_6 : decode cX15_isInRow 6 = .ok (.getfield 44, 3) := by decide +kernel
set_option maxRecDepth 20000 in
theorem dX15_isInRow_9 : decode cX15_isInRow 9 = .ok (.getfield 298, 3) := by decide +kernel
set_option maxRecDepth 20000 in
theorem dX15_isInRow_12 : decode cX15_isInRow 12 = .ok (.if_icmp .ge 34, 3) := by decide +kernel
set_option maxRecDepth 20000 in
theorem dX15_isInRow_15 : decode cX15_isInRow 15 = .ok (.iload_n 2, 1) := by decide +kernel
set_option maxRecDepth 20000 in
theorem dX15_isInRow_16 : decode cX15_isInRow 16 = .ok (.ifCond .ne 18, 3) := by decide +kernel
set_option maxRecDepth 20000 in
theorem dX15_isInRow_19 : decode cX15_isInRow 19 = .ok (.aload_n 0, 1) := by decide +kernel
set_option maxRecDepth 20000 in
theorem dX15_isInRow_20 : decode cX15_isInRow 20 = .ok (.getfield 44, 3) := by decide +kernel
set_option maxRecDepth 20000 in
theorem dX15_isInRow_23 : decode cX15_isInRow 23 = .ok (.getfield 292, 3) := by decide +kernel
set_option maxRecDepth 20000 in
theorem dX15_isInRow_26 : decode cX15_isInRow 26 = .ok (.iload_n 3, 1) := by decide +kernel
set_option maxRecDepth 20000 in
theorem dX15_isInRow_27 : decode cX15_isInRow 27 = .ok (.aaload, 1) := by decide +kernel
set_option maxRecDepth 20000 in
theorem dX15_isInRow_28 : decode cX15_isInRow 28 = .ok (.iconst 1, 1) := by decide +kernel
set_option maxRecDepth 20000 in
theorem dX15_isInRow_29 : decode cX15_isInRow 29 = .ok (.iaload, 1) := by decide +kernel
set_option maxRecDepth 20000 in
theorem dX15_isInRow_30 : decode cX15_isInRow 30 = .ok (.iload_n 1, 1) := by decide +kernel
set_option maxRecDepth 20000 in
theorem dX15_isInRow_31 : decode cX15_isInRow 31 = .ok (.if_icmp .ne 7, 3) := by decide +kernel
set_option maxRecDepth 20000 in
theorem dX15_isInRow_34 : decode cX15_isInRow 34 = .ok (.iconst 1, 1) := by decide +kernel
set_option maxRecDepth 20000 in
theorem dX15_isInRow_35 : decode cX15_isInRow 35 = .ok (.goto 4, 3) := by decide +kernel
set_option maxRecDepth 20000 in
theorem dX15_isInRow_38 : decode cX15_isInRow 38 = .ok (.iconst 0, 1) := by decide +kernel
set_option maxRecDepth 20000 in
theorem dX15_isInRow_39 : decode cX15_isInRow 39 = .ok (.istore_n 2, 1) := by decide +kernel
set_option maxRecDepth 20000 in
theorem dX15_isInRow_40 : decode cX15_isInRow 40 = .ok (.iinc 3 1, 3) := by decide +kernel
set_option maxRecDepth 20000 in
theorem dX15_isInRow_43 : decode cX15_isInRow 43 = .ok (.goto (-39), 3) := by decide +kernel
set_option maxRecDepth 20000 in
theorem dX15_isInRow_46 : decode cX15_isInRow 46 = .ok (.iload_n 2, 1) := by decide +kernel
set_option maxRecDepth 20000 in
theorem dX15_isInRow_47 : decode cX15_isInRow 47 = .ok (.ireturn, 1) := by decide +kernel
set_option maxRecDepth 20000 in
theorem dX15_scan_0 : decode cX15_scan 0 = .ok (.aload_n 0, 1) := by decide +kernel
set_option maxRecDepth 20000 in
theorem dX15_scan_1 : decode cX15_scan 1 = .ok (.getfield 51, 3) := by decide +kernel
set_option maxRecDepth 20000 in
theorem dX15_scan_4 : decode cX15_scan 4 = .ok (.getfield 292, 3) := by decide +kernel
set_option maxRecDepth 20000 in
theorem dX15_scan_7 : decode cX15_scan 7 = .ok (.iload_n 1, 1) := by decide +kernel
set_option maxRecDepth 20000 in
theorem dX15_scan_8 : decode cX15_scan 8 = .ok (.aaload, 1) := by decide +kernel
set_option maxRecDepth 20000 in
theorem dX15_scan_9 : decode cX15_scan 9 = .ok (.astore_n 2, 1) := by decide +kernel
set_option maxRecDepth 20000 in
theorem dX15_scan_10 : decode cX15_scan 10 = .ok (.aload_n 2, 1) := by decide +kernel
set_option maxRecDepth 20000 in
theorem dX15_scan_11 : decode cX15_scan 11 = .ok (.iconst 2, 1) := by decide +kernel
set_option maxRecDepth 20000 in
theorem dX15_scan_12 : decode cX15_scan 12 = .ok (.iaload, 1) := by decide +kernel
set_option maxRecDepth 20000 in
theorem dX15_scan_13 : decode cX15_scan 13 = .ok (.aload_n 0, 1) := by decide +kernel
set_option maxRecDepth 20000 in
theorem dX15_scan_14 : decode cX15_scan 14 = .ok (.getfield 362, 3) := by decide +kernel
set_option maxRecDepth 20000 in
theorem dX15_scan_17 : decode cX15_scan 17 = .ok (.if_icmp .eq 4, 3) := by decide +kernel
set_option maxRecDepth 20000 in
theorem dX15_scan_20 : decode cX15_scan 20 = .ok (.return_, 1) := by decide +kernel
set_option maxRecDepth 20000 in
theorem dX15_scan_21 : decode cX15_scan 21 = .ok (.aload_n 2, 1) := by decide +kernel
set_option maxRecDepth 20000 in
theorem dX15_scan_22 : decode cX15_scan 22 = .ok (.iconst 2, 1) := by decide +kernel
set_option maxRecDepth 20000 in
theorem dX15_scan_23 : decode cX15_scan 23 = .ok (.dup2, 1) := by decide +kernel
set_option maxRecDepth 20000 in
theorem dX15_scan_24 : decode cX15_scan 24 = .ok (.iaload, 1) := by decide +kernel
set_option maxRecDepth 20000 in
theorem dX15_scan_25 : decode cX15_scan 25 = .ok (.aload_n 2, 1) := by decide +kernel
set_option maxRecDepth 20000 in
theorem dX15_scan_26 : decode cX15_scan 26 = .ok (.iconst 1, 1) := by decide +kernel
set_option maxRecDepth 20000 in
theorem dX15_scan_27 : decode cX15_scan 27 = .ok (.iaload, 1) := by decide +kernel
set_option maxRecDepth 20000 in
theorem dX15_scan_28 : decode cX15_scan 28 = .ok (.iadd, 1) := by decide +kernel
set_option maxRecDepth 20000 in
theorem dX15_scan_29 : decode cX15_scan 29 = .ok (.iastore, 1) := by decide +kernel
set_option maxRecDepth 20000 in
theorem dX15_scan_30 : decode cX15_scan 30 = .ok (.aload_n 2, 1) := by decide +kernel
set_option maxRecDepth 20000 in
theorem dX15_scan_31 : decode cX15_scan 31 = .ok (.iconst 3, 1) := by decide +kernel
set_option maxRecDepth 20000 in
theorem dX15_scan_32 : decode cX15_scan 32 = .ok (.iaload, 1) := by decide +kernel
set_option maxRecDepth 20000 in
theorem dX15_scan_33 : decode cX15_scan 33 = .ok (.ifCond .lt 13, 3) := by decide +kernel
set_option maxRecDepth 20000 in
theorem dX15_scan_36 : decode cX15_scan 36 = .ok (.aload_n 0, 1) := by decide +kernel
set_option maxRecDepth 20000 in
theorem dX15_scan_37 : decode cX15_scan 37 = .ok (.aload_n 2, 1) := by decide +kernel
set_option maxRecDepth 20000 in
theorem dX15_scan_38 : decode cX15_scan 38 = .ok (.iconst 3, 1) := by decide +kernel
set_option maxRecDepth 20000 in
theorem dX15_scan_39 : decode cX15_scan 39 = .ok (.iaload, 1) := by decide +kernel
set_option maxRecDepth 20000 in
theorem dX15_scan_40 : decode cX15_scan 40 = .ok (.invokevirtual 365, 3) := by decide +kernel
set_option maxRecDepth 20000 in
theorem dX15_scan_43 : decode cX15_scan 43 = .ok (.ifCond .ne 15, 3) := by decide +kernel
set_option maxRecDepth 20000 in
theorem dX15_scan_46 : decode cX15_scan 46 = .ok (.aload_n 0, 1) := by decide +kernel
set_option maxRecDepth 20000 in
theorem dX15_scan_47 : decode cX15_scan 47 = .ok (.getfield 44, 3) := by decide +kernel
set_option maxRecDepth 20000 in
theorem dX15_scan_50 : decode cX15_scan 50 = .ok (.getfield 298, 3) := by decide +kernel
set_option maxRecDepth 20000 in
theorem dX15_scan_53 : decode cX15_scan 53 = .ok (.bipush 16, 2) := by decide +kernel
set_option maxRecDepth 20000 in
theorem dX15_scan_55 : decode cX15_scan 55 = .ok (.if_icmp .ne 4, 3) := by decide +kernel
set_option maxRecDepth 20000 in
theorem dX15_scan_58 : decode cX15_scan 58 = .ok (.return_, 1) := by decide +kernel
set_option maxRecDepth 20000 in
theorem dX15_scan_59 : decode cX15_scan 59 = .ok (.aload_n 2, 1) := by decide +kernel
set_option maxRecDepth 20000 in
theorem dX15_scan_60 : decode cX15_scan 60 = .ok (.iconst 3, 1) := by decide +kernel
set_option maxRecDepth 20000 in
theorem dX15_scan_61 : decode cX15_scan 61 = .ok (.aload_n 0, 1) := by decide +kernel
set_option maxRecDepth 20000 in
theorem dX15_scan_62 : decode cX15_scan 62 = .ok (.aload_n 2, 1) := by decide +kernel
set_option maxRecDepth 20000 in
theorem dX15_scan_63 : decode cX15_scan 63 = .ok (.iconst 0, 1) := by decide +kernel
set_option maxRecDepth 20000 in
theorem dX15_scan_64 : decode cX15_scan 64 = .ok (.iaload, 1) := by decide +kernel
set_option maxRecDepth 20000 in
theorem dX15_scan_65 : decode cX15_scan 65 = .ok (.aload_n 0, 1) := by decide +kernel
set_option maxRecDepth 20000 in
theorem dX15_scan_66 : decode cX15_scan 66 = .ok (.getfield 51, 3) := by decide +kernel
set_option maxRecDepth 20000 in
theorem dX15_scan_69 : decode cX15_scan 69 = .ok (.getfield 321, 3) := by decide +kernel
set_option maxRecDepth 20000 in
theorem dX15_scan_72 : decode cX15_scan 72 = .ok (.iload_n 1, 1) := by decide +kernel
set_option maxRecDepth 20000 in
theorem dX15_scan_73 : decode cX15_scan 73 = .ok (.aaload, 1) := by decide +kernel
set_option maxRecDepth 20000 in
theorem dX15_scan_74 : decode cX15_scan 74 = .ok (.aload_n 0, 1) := by decide +kernel
set_option maxRecDepth 20000 in
theorem dX15_scan_75 : decode cX15_scan 75 = .ok (.getfield 51, 3) := by decide +kernel
set_option maxRecDepth 20000 in
theorem dX15_scan_78 : decode cX15_scan 78 = .ok (.getfield 323, 3) := by decide +kernel
set_option maxRecDepth 20000 in
theorem dX15_scan_81 : decode cX15_scan 81 = .ok (.iload_n 1, 1) := by decide +kernel
set_option maxRecDepth 20000 in
theorem dX15_scan_82 : decode cX15_scan 82 = .ok (.iaload, 1) := by decide +kernel
set_option maxRecDepth 20000 in
theorem dX15_scan_83 : decode cX15_scan 83 = .ok (.invokevirtual 368, 3) := by decide +kernel
set_option maxRecDepth 20000 in
theorem dX15_scan_86 : decode cX15_scan 86 = .ok (.iastore, 1) := by decide +kernel
set_option maxRecDepth 20000 in
theorem dX15_scan_87 : decode cX15_scan 87 = .ok (.return_, 1) := by decide +kernel
set_option maxRecDepth 20000 in
theorem dX15_takeHarm_0 : decode cX15_takeHarm 0 = .ok (.iconst 0, 1) := by decide +kernel
set_option maxRecDepth 20000 in
theorem dX15_takeHarm_1 : decode cX15_takeHarm 1 = .ok (.istore_n 2, 1) := by decide +kernel
set_option maxRecDepth 20000 in
theorem dX15_takeHarm_2 : decode cX15_takeHarm 2 = .ok (.iload_n 2, 1) := by decide +kernel
set_option maxRecDepth 20000 in
theorem dX15_takeHarm_3 : decode cX15_takeHarm 3 = .ok (.aload_n 0, 1) := by decide +kernel
set_option maxRecDepth 20000 in
theorem dX15_takeHarm_4 : decode cX15_takeHarm 4 = .ok (.getfield 372, 3) := by decide +kernel
set_option maxRecDepth 20000 in
theorem dX15_takeHarm_7 : decode cX15_takeHarm 7 = .ok (.if_icmp .ge 71, 3) := by decide +kernel
set_option maxRecDepth 20000 in
theorem dX15_takeHarm_10 : decode cX15_takeHarm 10 = .ok (.aload_n 0, 1) := by decide +kernel
set_option maxRecDepth 20000 in
theorem dX15_takeHarm_11 : decode cX15_takeHarm 11 = .ok (.getfield 60, 3) := by decide +kernel
set_option maxRecDepth 20000 in
theorem dX15_takeHarm_14 : decode cX15_takeHarm 14 = .ok (.iload_n 2, 1) := by decide +kernel
set_option maxRecDepth 20000 in
theorem dX15_takeHarm_15 : decode cX15_takeHarm 15 = .ok (.iaload, 1) := by decide +kernel
set_option maxRecDepth 20000 in
theorem dX15_takeHarm_16 : decode cX15_takeHarm 16 = .ok (.iload_n 1, 1) := by decide +kernel
set_option maxRecDepth 20000 in
theorem dX15_takeHarm_17 : decode cX15_takeHarm 17 = .ok (.if_icmp .eq 6, 3) := by decide +kernel
set_option maxRecDepth 20000 in
theorem dX15_takeHarm_20 : decode cX15_takeHarm 20 = .ok (.goto 52, 3) := by decide +kernel
set_option maxRecDepth 20000 in
theorem dX15_takeHarm_23 : decode cX15_takeHarm 23 = .ok (.aload_n 0, 1) := by decide +kernel
set_option maxRecDepth 20000 in
theorem dX15_takeHarm_24 : decode cX15_takeHarm 24 = .ok (.getfield 63, 3) := by decide +kernel
set_option maxRecDepth 20000 in
theorem dX15_takeHarm_27 : decode cX15_takeHarm 27 = .ok (.iload_n 2, 1) := by decide +kernel
set_option maxRecDepth 20000 in
theorem dX15_takeHarm_28 : decode cX15_takeHarm 28 = .ok (.iaload, 1) := by decide +kernel
set_option maxRecDepth 20000 in
theorem dX15_takeHarm_29 : decode cX15_takeHarm 29 = .ok (.istore_n 3, 1) := by decide +kernel
set_option maxRecDepth 20000 in
theorem dX15_takeHarm_30 : decode cX15_takeHarm 30 = .ok (.aload_n 0, 1) := by decide +kernel
set_option maxRecDepth 20000 in
theorem dX15_takeHarm_31 : decode cX15_takeHarm 31 = .ok (.dup, 1) := by decide +kernel
set_option maxRecDepth 20000 in
theorem dX15_takeHarm_32 : decode cX15_takeHarm 32 = .ok (.getfield 372, 3) := by decide +kernel
set_option maxRecDepth 20000 in
theorem dX15_takeHarm_35 : decode cX15_takeHarm 35 = .ok (.iconst 1, 1) := by decide +kernel
set_option maxRecDepth 20000 in
theorem dX15_takeHarm_36 : decode cX15_takeHarm 36 = .ok (.isub, 1) := by decide +kernel
set_option maxRecDepth 20000 in
theorem dX15_takeHarm_37 : decode cX15_takeHarm 37 = .ok (.putfield 372, 3) := by decide +kernel
set_option maxRecDepth 20000 in
theorem dX15_takeHarm_40 : decode cX15_takeHarm 40 = .ok (.aload_n 0, 1) := by decide +kernel
set_option maxRecDepth 20000 in
theorem dX15_takeHarm_41 : decode cX15_takeHarm 41 = .ok (.getfield 60, 3) := by decide +kernel
set_option maxRecDepth 20000 in
theorem dX15_takeHarm_44 : decode cX15_takeHarm 44 = .ok (.iload_n 2, 1) := by decide +kernel
set_option maxRecDepth 20000 in
theorem dX15_takeHarm_45 : decode cX15_takeHarm 45 = .ok (.aload_n 0, 1) := by decide +kernel
set_option maxRecDepth 20000 in
theorem dX15_takeHarm_46 : decode cX15_takeHarm 46 = .ok (.getfield 60, 3) := by decide +kernel
set_option maxRecDepth 20000 in
theorem dX15_takeHarm_49 : decode cX15_takeHarm 49 = .ok (.aload_n 0, 1) := by decide +kernel
set_option maxRecDepth 20000 in
theorem dX15_takeHarm_50 : decode cX15_takeHarm 50 = .ok (.getfield 372, 3) := by decide +kernel
set_option maxRecDepth 20000 in
theorem dX15_takeHarm_53 : decode cX15_takeHarm 53 = .ok (.iaload, 1) := by decide +kernel
set_option maxRecDepth 20000 in
theorem dX15_takeHarm_54 : decode cX15_takeHarm 54 = .ok (.iastore, 1) := by decide +kernel
set_option maxRecDepth 20000 in
theorem dX15_takeHarm_55 : decode cX15_takeHarm 55 = .ok (.aload_n 0, 1) := by decide +kernel
set_option maxRecDepth 20000 in
theorem dX15_takeHarm_56 : decode cX15_takeHarm 56 = .ok (.getfield 63, 3) := by decide +kernel
set_option maxRecDepth 20000 in
theorem dX15_takeHarm_59 : decode cX15_takeHarm 59 = .ok (.iload_n 2, 1) := by decide +kernel
set_option maxRecDepth 20000 in
theorem dX15_takeHarm_60 : decode cX15_takeHarm 60 = .ok (.aload_n 0, 1) := by decide +kernel
set_option maxRecDepth 20000 in
theorem dX15_takeHarm_61 : decode cX15_takeHarm 61 = .ok (.getfield 63, 3) := by decide +kernel
set_option maxRecDepth 20000 in
theorem dX15_takeHarm_64 : decode cX15_takeHarm 64 = .ok (.aload_n 0, 1) := by decide +kernel
set_option maxRecDepth 20000 in
theorem dX15_takeHarm_65 : decode cX15_takeHarm 65 = .ok (.getfield 372, 3) := by decide +kernel
set_option maxRecDepth 20000 in
theorem dX15_takeHarm_68 : decode cX15_takeHarm 68 = .ok (.iaload, 1) := by decide +kernel
set_option maxRecDepth 20000 in
theorem dX15_takeHarm_69 : decode cX15_takeHarm 69 = .ok (.iastore, 1) := by decide +kernel
set_option maxRecDepth 20000 in
theorem dX15_takeHarm_70 : decode cX15_takeHarm 70 = .ok (.iload_n 3, 1) := by decide +kernel
set_option maxRecDepth 20000 in
theorem dX15_takeHarm_71 : decode cX15_takeHarm 71 = .ok (.ireturn, 1) := by decide +kernel
set_option maxRecDepth 20000 in
theorem dX15_takeHarm_72 : decode cX15_takeHarm 72 = .ok (.iinc 2 1, 3) := by decide +kernel
set_option maxRecDepth 20000 in
theorem dX15_takeHarm_75 : decode cX15_takeHarm 75 = .ok (.goto (-73), 3) := by decide +kernel
set_option maxRecDepth 20000 in
theorem dX15_takeHarm_78 : decode cX15_takeHarm 78 = .ok (.iconst 0, 1) := by decide +kernel
set_option maxRecDepth 20000 in
theorem dX15_takeHarm_79 : decode cX15_takeHarm 79 = .ok (.ireturn, 1) := by decide +kernel
set_option maxRecDepth 20000 in
theorem dX15_sendsOn_0 : decode cX15_sendsOn 0 = .ok (.aload_n 0, 1) := by decide +kernel
set_option maxRecDepth 20000 in
theorem dX15_sendsOn_1 : decode cX15_sendsOn 1 = .ok (.getfield 352, 3) := by decide +kernel
set_option maxRecDepth 20000 in
theorem dX15_sendsOn_4 : decode cX15_sendsOn 4 = .ok (.ifCond .ne 61, 3) := by decide +kernel
set_option maxRecDepth 20000 in
theorem dX15_sendsOn_7 : decode cX15_sendsOn 7 = .ok (.aload_n 0, 1) := by decide +kernel
set_option maxRecDepth 20000 in
theorem dX15_sendsOn_8 : decode cX15_sendsOn 8 = .ok (.iconst 1, 1) := by decide +kernel
set_option maxRecDepth 20000 in
theorem dX15_sendsOn_9 : decode cX15_sendsOn 9 = .ok (.putfield 352, 3) := by decide +kernel
set_option maxRecDepth 20000 in
theorem dX15_sendsOn_12 : decode cX15_sendsOn 12 = .ok (.aload_n 0, 1) := by decide +kernel
set_option maxRecDepth 20000 in
theorem dX15_sendsOn_13 : decode cX15_sendsOn 13 = .ok (.aload_n 0, 1) := by decide +kernel
set_option maxRecDepth 20000 in
theorem dX15_sendsOn_14 : decode cX15_sendsOn 14 = .ok (.aload_n 0, 1) := by decide +kernel
set_option maxRecDepth 20000 in
theorem dX15_sendsOn_15 : decode cX15_sendsOn 15 = .ok (.getfield 375, 3) := by decide +kernel
set_option maxRecDepth 20000 in
theorem dX15_sendsOn_18 : decode cX15_sendsOn 18 = .ok (.invokevirtual 378, 3) := by decide +kernel
set_option maxRecDepth 20000 in
theorem dX15_sendsOn_21 : decode cX15_sendsOn 21 = .ok (.putfield 381, 3) := by decide +kernel
set_option maxRecDepth 20000 in
theorem dX15_sendsOn_24 : decode cX15_sendsOn 24 = .ok (.aload_n 0, 1) := by decide +kernel
set_option maxRecDepth 20000 in
theorem dX15_sendsOn_25 : decode cX15_sendsOn 25 = .ok (.dup, 1) := by decide +kernel
set_option maxRecDepth 20000 in
theorem dX15_sendsOn_26 : decode cX15_sendsOn 26 = .ok (.getfield 375, 3) := by decide +kernel
set_option maxRecDepth 20000 in
theorem dX15_sendsOn_29 : decode cX15_sendsOn 29 = .ok (.iconst 1, 1) := by decide +kernel
set_option maxRecDepth 20000 in
theorem dX15_sendsOn_30 : decode cX15_sendsOn 30 = .ok (.iadd, 1) := by decide +kernel
set_option maxRecDepth 20000 in
theorem dX15_sendsOn_31 : decode cX15_sendsOn 31 = .ok (.putfield 375, 3) := by decide +kernel
set_option maxRecDepth 20000 in
theorem dX15_sendsOn_34 : decode cX15_sendsOn 34 = .ok (.aload_n 0, 1) := by decide +kernel
set_option maxRecDepth 20000 in
theorem dX15_sendsOn_35 : decode cX15_sendsOn 35 = .ok (.aload_n 0, 1) := by decide +kernel
set_option maxRecDepth 20000 in
theorem dX15_sendsOn_36 : decode cX15_sendsOn 36 = .ok (.getfield 381, 3) := by decide +kernel
set_option maxRecDepth 20000 in
theorem dX15_sendsOn_39 : decode cX15_sendsOn 39 = .ok (.sipush 256, 3) := by decide +kernel
set_option maxRecDepth 20000 in
theorem dX15_sendsOn_42 : decode cX15_sendsOn 42 = .ok (.if_icmp .le 14, 3) := by decide +kernel
set_option maxRecDepth 20000 in
theorem dX15_sendsOn_45 : decode cX15_sendsOn 45 = .ok (.aload_n 0, 1) := by decide +kernel
set_option maxRecDepth 20000 in
theorem dX15_sendsOn_46 : decode cX15_sendsOn 46 = .ok (.getfield 381, 3) := by decide +kernel
set_option maxRecDepth 20000 in
theorem dX15_sendsOn_49 : decode cX15_sendsOn 49 = .ok (.sipush 256, 3) := by decide +kernel
set_option maxRecDepth 20000 in
theorem dX15_sendsOn_52 : decode cX15_sendsOn 52 = .ok (.isub, 1) := by decide +kernel
set_option maxRecDepth 20000 in
theorem dX15_sendsOn_53 : decode cX15_sendsOn 53 = .ok (.goto 4, 3) := by decide +kernel
set_option maxRecDepth 20000 in
theorem dX15_sendsOn_56 : decode cX15_sendsOn 56 = .ok (.iconst 0, 1) := by decide +kernel
set_option maxRecDepth 20000 in
theorem dX15_sendsOn_57 : decode cX15_sendsOn 57 = .ok (.putfield 384, 3) := by decide +kernel
set_option maxRecDepth 20000 in
theorem dX15_sendsOn_60 : decode cX15_sendsOn 60 = .ok (.aload_n 0, 1) := by decide +kernel
set_option maxRecDepth 20000 in
theorem dX15_sendsOn_61 : decode cX15_sendsOn 61 = .ok (.iconst 4, 1) := by decide +kernel
set_option maxRecDepth 20000 in
theorem dX15_sendsOn_62 : decode cX15_sendsOn 62 = .ok (.putfield 387, 3) := by decide +kernel
set_option maxRecDepth 20000 in
theorem dX15_sendsOn_65 : decode cX15_sendsOn 65 = .ok (.aload_n 0, 1) := by decide +kernel
set_option maxRecDepth 20000 in
theorem dX15_sendsOn_66 : decode cX15_sendsOn 66 = .ok (.getfield 384, 3) := by decide +kernel
set_option maxRecDepth 20000 in
theorem dX15_sendsOn_69 : decode cX15_sendsOn 69 = .ok (.ifCond .le 15, 3) := by decide +kernel
set_option maxRecDepth 20000 in
theorem dX15_sendsOn_72 : decode cX15_sendsOn 72 = .ok (.aload_n 0, 1) := by decide +kernel
set_option maxRecDepth 20000 in
theorem dX15_sendsOn_73 : decode cX15_sendsOn 73 = .ok (.dup, 1) := by decide +kernel
set_option maxRecDepth 20000 in
theorem dX15_sendsOn_74 : decode cX15_sendsOn 74 = .ok (.getfield 384, 3) := by decide +kernel
set_option maxRecDepth 20000 in
theorem dX15_sendsOn_77 : decode cX15_sendsOn 77 = .ok (.iconst 1, 1) := by decide +kernel
set_option maxRecDepth 20000 in
theorem dX15_sendsOn_78 : decode cX15_sendsOn 78 = .ok (.isub, 1) := by decide +kernel
set_option maxRecDepth 20000 in
theorem dX15_sendsOn_79 : decode cX15_sendsOn 79 = .ok (.putfield 384, 3) := by decide +kernel
set_option maxRecDepth 20000 in
theorem dX15_sendsOn_82 : decode cX15_sendsOn 82 = .ok (.iconst 0, 1) := by decide +kernel
set_option maxRecDepth 20000 in
theorem dX15_sendsOn_83 : decode cX15_sendsOn 83 = .ok (.ireturn, 1) := by decide +kernel
set_option maxRecDepth 20000 in
theorem dX15_sendsOn_84 : decode cX15_sendsOn 84 = .ok (.aload_n 0, 1) := by decide +kernel
set_option maxRecDepth 20000 in
theorem dX15_sendsOn_85 : decode cX15_sendsOn 85 = .ok (.dup, 1) := by decide +kernel
set_option maxRecDepth 20000 in
theorem dX15_sendsOn_86 : decode cX15_sendsOn 86 = .ok (.getfield 387, 3) := by decide +kernel
set_option maxRecDepth 20000 in
theorem dX15_sendsOn_89 : decode cX15_sendsOn 89 = .ok (.iconst 1, 1) := by decide +kernel
set_option maxRecDepth 20000 in
theorem dX15_sendsOn_90 : decode cX15_sendsOn 90 = .ok (.isub, 1) := by decide +kernel
set_option maxRecDepth 20000 in
theorem dX15_sendsOn_91 : decode cX15_sendsOn 91 = .ok (.putfield 387, 3) := by decide +kernel
set_option maxRecDepth 20000 in
theorem dX15_sendsOn_94 : decode cX15_sendsOn 94 = .ok (.aload_n 0, 1) := by decide +kernel
set_option maxRecDepth 20000 in
theorem dX15_sendsOn_95 : decode cX15_sendsOn 95 = .ok (.getfield 387, 3) := by decide +kernel
set_option maxRecDepth 20000 in
theorem dX15_sendsOn_98 : decode cX15_sendsOn 98 = .ok (.ifCond .ne 142, 3) := by decide +kernel
set_option maxRecDepth 20000 in
theorem dX15_sendsOn_101 : decode cX15_sendsOn 101 = .ok (.aload_n 0, 1) := by decide +kernel
set_option maxRecDepth 20000 in
theorem dX15_sendsOn_102 : decode cX15_sendsOn 102 = .ok (.getfield 381, 3) := by decide +kernel
set_option maxRecDepth 20000 in
theorem dX15_sendsOn_105 : decode cX15_sendsOn 105 = .ok (.sipush 256, 3) := by decide +kernel
set_option maxRecDepth 20000 in
theorem dX15_sendsOn_108 : decode cX15_sendsOn 108 = .ok (.if_icmp .ge 20, 3) := by decide +kernel
set_option maxRecDepth 20000 in
theorem dX15_sendsOn_111 : decode cX15_sendsOn 111 = .ok (.aload_n 0, 1) := by decide +kernel
set_option maxRecDepth 20000 in
theorem dX15_sendsOn_112 : decode cX15_sendsOn 112 = .ok (.getfield 57, 3) := by decide +kernel
set_option maxRecDepth 20000 in
theorem dX15_sendsOn_115 : decode cX15_sendsOn 115 = .ok (.aload_n 0, 1) := by decide +kernel
set_option maxRecDepth 20000 in
theorem dX15_sendsOn_116 : decode cX15_sendsOn 116 = .ok (.getfield 349, 3) := by decide +kernel
set_option maxRecDepth 20000 in
theorem dX15_sendsOn_119 : decode cX15_sendsOn 119 = .ok (.iaload, 1) := by decide +kernel
set_option maxRecDepth 20000 in
theorem dX15_sendsOn_120 : decode cX15_sendsOn 120 = .ok (.aload_n 0, 1) := by decide +kernel
set_option maxRecDepth 20000 in
theorem dX15_sendsOn_121 : decode cX15_sendsOn 121 = .ok (.getfield 381, 3) := by decide +kernel
set_option maxRecDepth 20000 in
theorem dX15_sendsOn_124 : decode cX15_sendsOn 124 = .ok (.ixor, 1) := by decide +kernel
set_option maxRecDepth 20000 in
theorem dX15_sendsOn_125 : decode cX15_sendsOn 125 = .ok (.goto 12, 3) := by decide +kernel
set_option maxRecDepth 20000 in
theorem dX15_sendsOn_128 : decode cX15_sendsOn 128 = .ok (.aload_n 0, 1) := by decide +kernel
set_option maxRecDepth 20000 in
theorem dX15_sendsOn_129 : decode cX15_sendsOn 129 = .ok (.getfield 57, 3) := by decide +kernel
set_option maxRecDepth 20000 in
theorem dX15_sendsOn_132 : decode cX15_sendsOn 132 = .ok (.aload_n 0, 1) := by decide +kernel
set_option maxRecDepth 20000 in
theorem dX15_sendsOn_133 : decode cX15_sendsOn 133 = .ok (.getfield 349, 3) := by decide +kernel
set_option maxRecDepth 20000 in
theorem dX15_sendsOn_136 : decode cX15_sendsOn 136 = .ok (.iaload, 1) := by decide +kernel
set_option maxRecDepth 20000 in
theorem dX15_sendsOn_137 : decode cX15_sendsOn 137 = .ok (.istore_n 1, 1) := by decide +kernel
set_option maxRecDepth 20000 in
theorem dX15_sendsOn_138 : decode cX15_sendsOn 138 = .ok (.aload_n 0, 1) := by decide +kernel
set_option maxRecDepth 20000 in
theorem dX15_sendsOn_139 : decode cX15_sendsOn 139 = .ok (.getfield 381, 3) := by decide +kernel
set_option maxRecDepth 20000 in
theorem dX15_sendsOn_142 : decode cX15_sendsOn 142 = .ok (.sipush 256, 3) := by decide +kernel
set_option maxRecDepth 20000 in
theorem dX15_sendsOn_145 : decode cX15_sendsOn 145 = .ok (.if_icmp .eq 55, 3) := by decide +kernel
set_option maxRecDepth 20000 in
theorem dX15_sendsOn_148 : decode cX15_sendsOn 148 = .ok (.aload_n 0, 1) := by decide +kernel
set_option maxRecDepth 20000 in
theorem dX15_sendsOn_149 : decode cX15_sendsOn 149 = .ok (.getfield 340, 3) := by decide +kernel
set_option maxRecDepth 20000 in
theorem dX15_sendsOn_152 : decode cX15_sendsOn 152 = .ok (.iconst 1, 1) := by decide +kernel
set_option maxRecDepth 20000 in
theorem dX15_sendsOn_153 : decode cX15_sendsOn 153 = .ok (.if_icmp .eq 11, 3) := by decide +kernel
set_option maxRecDepth 20000 in
theorem dX15_sendsOn_156 : decode cX15_sendsOn 156 = .ok (.aload_n 0, 1) := by decide +kernel
set_option maxRecDepth 20000 in
theorem dX15_sendsOn_157 : decode cX15_sendsOn 157 = .ok (.getfield 25, 3) := by decide +kernel
set_option maxRecDepth 20000 in
theorem dX15_sendsOn_160 : decode cX15_sendsOn 160 = .ok (.iload_n 1, 1) := by decide +kernel
set_option maxRecDepth 20000 in
theorem dX15_sendsOn_161 : decode cX15_sendsOn 161 = .ok (.invokevirtual 390, 3) := by decide +kernel
set_option maxRecDepth 20000 in
theorem dX15_sendsOn_164 : decode cX15_sendsOn 164 = .ok (.iconst 0, 1) := by decide +kernel
set_option maxRecDepth 20000 in
theorem dX15_sendsOn_165 : decode cX15_sendsOn 165 = .ok (.istore_n 2, 1) := by decide +kernel
set_option maxRecDepth 20000 in
theorem dX15_sendsOn_166 : decode cX15_sendsOn 166 = .ok (.iload_n 2, 1) := by decide +kernel
set_option maxRecDepth 20000 in
theorem dX15_sendsOn_167 : decode cX15_sendsOn 167 = .ok (.aload_n 0, 1) := by decide +kernel
set_option maxRecDepth 20000 in
theorem dX15_sendsOn_168 : decode cX15_sendsOn 168 = .ok (.getfield 78, 3) := by decide +kernel
set_option maxRecDepth 20000 in
theorem dX15_sendsOn_171 : decode cX15_sendsOn 171 = .ok (.if_icmp .ge 29, 3) := by decide +kernel
set_option maxRecDepth 20000 in
theorem dX15_sendsOn_174 : decode cX15_sendsOn 174 = .ok (.aload_n 0, 1) := by decide +kernel
set_option maxRecDepth 20000 in
theorem dX15_sendsOn_175 : decode cX15_sendsOn 175 = .ok (.getfield 340, 3) := by decide +kernel
set_option maxRecDepth 20000 in
theorem dX15_sendsOn_178 : decode cX15_sendsOn 178 = .ok (.iconst 2, 1) := by decide +kernel
set_option maxRecDepth 20000 in
theorem dX15_sendsOn_179 : decode cX15_sendsOn 179 = .ok (.iload_n 2, 1) := by decide +kernel
set_option maxRecDepth 20000 in
theorem dX15_sendsOn_180 : decode cX15_sendsOn 180 = .ok (.iadd, 1) := by decide +kernel
set_option maxRecDepth 20000 in
theorem dX15_sendsOn_181 : decode cX15_sendsOn 181 = .ok (.if_icmp .eq 13, 3) := by decide +kernel
set_option maxRecDepth 20000 in
theorem dX15_sendsOn_184 : decode cX15_sendsOn 184 = .ok (.aload_n 0, 1) := by decide +kernel
set_option maxRecDepth 20000 in
theorem dX15_sendsOn_185 : decode cX15_sendsOn 185 = .ok (.getfield 9, 3) := by decide +kernel
set_option maxRecDepth 20000 in
theorem dX15_sendsOn_188 : decode cX15_sendsOn 188 = .ok (.iload_n 2, 1) := by decide +kernel
set_option maxRecDepth 20000 in
theorem dX15_sendsOn_189 : decode cX15_sendsOn 189 = .ok (.aaload, 1) := by decide +kernel
set_option maxRecDepth 20000 in
theorem dX15_sendsOn_190 : decode cX15_sendsOn 190 = .ok (.iload_n 1, 1) := by decide +kernel
set_option maxRecDepth 20000 in
theorem dX15_sendsOn_191 : decode cX15_sendsOn 191 = .ok (.invokevirtual 393, 3) := by decide +kernel
set_option maxRecDepth 20000 in
theorem dX15_sendsOn_194 : decode cX15_sendsOn 194 = .ok (.iinc 2 1, 3) := by decide +kernel
set_option maxRecDepth 20000 in
theorem dX15_sendsOn_197 : decode cX15_sendsOn 197 = .ok (.goto (-31), 3) := by decide +kernel
set_option maxRecDepth 20000 in
theorem dX15_sendsOn_200 : decode cX15_sendsOn 200 = .ok (.aload_n 0, 1) := by decide +kernel
set_option maxRecDepth 20000 in
theorem dX15_sendsOn_201 : decode cX15_sendsOn 201 = .ok (.dup, 1) := by decide +kernel
set_option maxRecDepth 20000 in
theorem dX15_sendsOn_202 : decode cX15_sendsOn 202 = .ok (.getfield 394, 3) := by decide +kernel
set_option maxRecDepth 20000 in
theorem dX15_sendsOn_205 : decode cX15_sendsOn 205 = .ok (.iconst 1, 1) := by decide +kernel
set_option maxRecDepth 20000 in
theorem dX15_sendsOn_206 : decode cX15_sendsOn 206 = .ok (.iadd, 1) := by decide +kernel
set_option maxRecDepth 20000 in
theorem dX15_sendsOn_207 : decode cX15_sendsOn 207 = .ok (.putfield 394, 3) := by decide +kernel
set_option maxRecDepth 20000 in
theorem dX15_sendsOn_210 : decode cX15_sendsOn 210 = .ok (.aload_n 0, 1) := by decide +kernel
set_option maxRecDepth 20000 in
theorem dX15_sendsOn_211 : decode cX15_sendsOn 211 = .ok (.iconst 0, 1) := by decide +kernel
set_option maxRecDepth 20000 in
theorem dX15_sendsOn_212 : decode cX15_sendsOn 212 = .ok (.putfield 352, 3) := by decide +kernel
set_option maxRecDepth 20000 in
theorem dX15_sendsOn_215 : decode cX15_sendsOn 215 = .ok (.aload_n 0, 1) := by decide +kernel
set_option maxRecDepth 20000 in
theorem dX15_sendsOn_216 : decode cX15_sendsOn 216 = .ok (.dup, 1) := by decide +kernel
set_option maxRecDepth 20000 in
theorem dX15_sendsOn_217 : decode cX15_sendsOn 217 = .ok (.getfield 349, 3) := by decide +kernel
set_option maxRecDepth 20000 in
theorem dX15_sendsOn_220 : decode cX15_sendsOn 220 = .ok (.iconst 1, 1) := by decide +kernel
set_option maxRecDepth 20000 in
theorem dX15_sendsOn_221 : decode cX15_sendsOn 221 = .ok (.iadd, 1) := by decide +kernel
set_option maxRecDepth 20000 in
theorem dX15_sendsOn_222 : decode cX15_sendsOn 222 = .ok (.putfield 349, 3) := by decide +kernel
set_option maxRecDepth 20000 in
theorem dX15_sendsOn_225 : decode cX15_sendsOn 225 = .ok (.aload_n 0, 1) := by decide +kernel
set_option maxRecDepth 20000 in
theorem dX15_sendsOn_226 : decode cX15_sendsOn 226 = .ok (.getfield 349, 3) := by decide +kernel
set_option maxRecDepth 20000 in
theorem dX15_sendsOn_229 : decode cX15_sendsOn 229 = .ok (.aload_n 0, 1) := by decide +kernel
set_option maxRecDepth 20000 in
theorem dX15_sendsOn_230 : decode cX15_sendsOn 230 = .ok (.getfield 346, 3) := by decide +kernel
set_option maxRecDepth 20000 in
theorem dX15_sendsOn_233 : decode cX15_sendsOn 233 = .ok (.if_icmp .ne 7, 3) := by decide +kernel
set_option maxRecDepth 20000 in
theorem dX15_sendsOn_236 : decode cX15_sendsOn 236 = .ok (.aload_n 0, 1) := by decide +kernel
set_option maxRecDepth 20000 in
theorem dX15_sendsOn_237 : decode cX15_sendsOn 237 = .ok (.invokevirtual 397, 3) := by decide +kernel
set_option maxRecDepth 20000 in
theorem dX15_sendsOn_240 : decode cX15_sendsOn 240 = .ok (.aload_n 0, 1) := by decide +kernel
set_option maxRecDepth 20000 in
theorem dX15_sendsOn_241 : decode cX15_sendsOn 241 = .ok (.getfield 381, 3) := by decide +kernel
set_option maxRecDepth 20000 in
theorem dX15_sendsOn_244 : decode cX15_sendsOn 244 = .ok (.sipush 256, 3) := by decide +kernel
set_option maxRecDepth 20000 in
theorem dX15_sendsOn_247 : decode cX15_sendsOn 247 = .ok (.if_icmp .eq 7, 3) := by decide +kernel
set_option maxRecDepth 20000 in
theorem dX15_sendsOn_250 : decode cX15_sendsOn 250 = .ok (.iconst 1, 1) := by decide +kernel
set_option maxRecDepth 20000 in
theorem dX15_sendsOn_251 : decode cX15_sendsOn 251 = .ok (.goto 4, 3) := by decide +kernel
set_option maxRecDepth 20000 in
theorem dX15_sendsOn_254 : decode cX15_sendsOn 254 = .ok (.iconst 0, 1) := by decide +kernel
set_option maxRecDepth 20000 in
theorem dX15_sendsOn_255 : decode cX15_sendsOn 255 = .ok (.ireturn, 1) := by decide +kernel
set_option maxRecDepth 20000 in
theorem dX15_endsSending_0 : decode cX15_endsSending 0 = .ok (.aload_n 0, 1) := by decide +kernel
set_option maxRecDepth 20000 in
theorem dX15_endsSending_1 : decode cX15_endsSending 1 = .ok (.getfield 340, 3) := by decide +kernel
set_option maxRecDepth 20000 in
theorem dX15_endsSending_4 : decode cX15_endsSending 4 = .ok (.iconst 1, 1) := by decide +kernel
set_option maxRecDepth 20000 in
theorem dX15_endsSending_5 : decode cX15_endsSending 5 = .ok (.if_icmp .ne 13, 3) := by decide +kernel
set_option maxRecDepth 20000 in
theorem dX15_endsSending_8 : decode cX15_endsSending 8 = .ok (.aload_n 0, 1) := by decide +kernel
set_option maxRecDepth 20000 in
theorem dX15_endsSending_9 : decode cX15_endsSending 9 = .ok (.iconst 2, 1) := by decide +kernel
set_option maxRecDepth 20000 in
theorem dX15_endsSending_10 : decode cX15_endsSending 10 = .ok (.putfield 306, 3) := by decide +kernel
set_option maxRecDepth 20000 in
theorem dX15_endsSending_13 : decode cX15_endsSending 13 = .ok (.aload_n 0, 1) := by decide +kernel
set_option maxRecDepth 20000 in
theorem dX15_endsSending_14 : decode cX15_endsSending 14 = .ok (.iconst 0, 1) := by decide +kernel
set_option maxRecDepth 20000 in
theorem dX15_endsSending_15 : decode cX15_endsSending 15 = .ok (.putfield 400, 3) := by decide +kernel
set_option maxRecDepth 20000 in
theorem dX15_endsSending_18 : decode cX15_endsSending 18 = .ok (.aload_n 0, 1) := by decide +kernel
set_option maxRecDepth 20000 in
theorem dX15_endsSending_19 : decode cX15_endsSending 19 = .ok (.iconst 0, 1) := by decide +kernel
set_option maxRecDepth 20000 in
theorem dX15_endsSending_20 : decode cX15_endsSending 20 = .ok (.putfield 340, 3) := by decide +kernel
set_option maxRecDepth 20000 in
theorem dX15_endsSending_23 : decode cX15_endsSending 23 = .ok (.aload_n 0, 1) := by decide +kernel
set_option maxRecDepth 20000 in
theorem dX15_endsSending_24 : decode cX15_endsSending 24 = .ok (.iconst 0, 1) := by decide +kernel
set_option maxRecDepth 20000 in
theorem dX15_endsSending_25 : decode cX15_endsSending 25 = .ok (.putfield 54, 3) := by decide +kernel
set_option maxRecDepth 20000 in
theorem dX15_endsSending_28 : decode cX15_endsSending 28 = .ok (.return_, 1) := by decide +kernel
set_option maxRecDepth 20000 in
theorem dX15_oneTick_0 : decode cX15_oneTick 0 = .ok (.aload_n 0, 1) := by decide +kernel
set_option maxRecDepth 20000 in
theorem dX15_oneTick_1 : decode cX15_oneTick 1 = .ok (.getfield 362, 3) := by decide +kernel
set_option maxRecDepth 20000 in
theorem dX15_oneTick_4 : decode cX15_oneTick 4 = .ok (.bipush 20, 2) := by decide +kernel
set_option maxRecDepth 20000 in
theorem dX15_oneTick_6 : decode cX15_oneTick 6 = .ok (.irem, 1) := by decide +kernel
set_option maxRecDepth 20000 in
theorem dX15_oneTick_7 : decode cX15_oneTick 7 = .ok (.ifCond .ne 28, 3) := by decide +kernel
set_option maxRecDepth 20000 in
theorem dX15_oneTick_10 : decode cX15_oneTick 10 = .ok (.iconst 0, 1) := by decide +kernel
set_option maxRecDepth 20000 in
theorem dX15_oneTick_11 : decode cX15_oneTick 11 = .ok (.istore_n 1, 1) := by decide +kernel
set_option maxRecDepth 20000 in
theorem dX15_oneTick_12 : decode cX15_oneTick 12 = .ok (.iload_n 1, 1) := by decide +kernel
set_option maxRecDepth 20000 in
theorem dX15_oneTick_13 : decode cX15_oneTick 13 = .ok (.aload_n 0, 1) := by decide +kernel
set_option maxRecDepth 20000 in
theorem dX15_oneTick_14 : decode cX15_oneTick 14 = .ok (.getfield 78, 3) := by decide +kernel
set_option maxRecDepth 20000 in
theorem dX15_oneTick_17 : decode cX15_oneTick 17 = .ok (.if_icmp .ge 18, 3) := by decide +kernel
set_option maxRecDepth 20000 in
theorem dX15_oneTick_20 : decode cX15_oneTick 20 = .ok (.aload_n 0, 1) := by decide +kernel
set_option maxRecDepth 20000 in
theorem dX15_oneTick_21 : decode cX15_oneTick 21 = .ok (.getfield 9, 3) := by decide +kernel
set_option maxRecDepth 20000 in
theorem dX15_oneTick_24 : decode cX15_oneTick 24 = .ok (.iload_n 1, 1) := by decide +kernel
set_option maxRecDepth 20000 in
theorem dX15_oneTick_25 : decode cX15_oneTick 25 = .ok (.aaload, 1) := by decide +kernel
set_option maxRecDepth 20000 in
theorem dX15_oneTick_26 : decode cX15_oneTick 26 = .ok (.invokestatic 403, 3) := by decide +kernel
set_option maxRecDepth 20000 in
theorem dX15_oneTick_29 : decode cX15_oneTick 29 = .ok (.iinc 1 1, 3) := by decide +kernel
set_option maxRecDepth 20000 in
theorem dX15_oneTick_32 : decode cX15_oneTick 32 = .ok (.goto (-20), 3) := by decide +kernel
set_option maxRecDepth 20000 in
theorem dX15_oneTick_35 : decode cX15_oneTick 35 = .ok (.iconst 0, 1) := by decide +kernel
set_option maxRecDepth 20000 in
theorem dX15_oneTick_36 : decode cX15_oneTick 36 = .ok (.istore_n 1, 1) := by decide +kernel
set_option maxRecDepth 20000 in
theorem dX15_oneTick_37 : decode cX15_oneTick 37 = .ok (.iload_n 1, 1) := by decide +kernel
set_option maxRecDepth 20000 in
theorem dX15_oneTick_38 : decode cX15_oneTick 38 = .ok (.aload_n 0, 1) := by decide +kernel
set_option maxRecDepth 20000 in
theorem dX15_oneTick_39 : decode cX15_oneTick 39 = .ok (.getfield 51, 3) := by decide +kernel
set_option maxRecDepth 20000 in
theorem dX15_oneTick_42 : decode cX15_oneTick 42 = .ok (.getfield 298, 3) := by decide +kernel
set_option maxRecDepth 20000 in
theorem dX15_oneTick_45 : decode cX15_oneTick 45 = .ok (.if_icmp .ge 14, 3) := by decide +kernel
set_option maxRecDepth 20000 in
theorem dX15_oneTick_48 : decode cX15_oneTick 48 = .ok (.aload_n 0, 1) := by decide +kernel
set_option maxRecDepth 20000 in
theorem dX15_oneTick_49 : decode cX15_oneTick 49 = .ok (.iload_n 1, 1) := by decide +kernel
set_option maxRecDepth 20000 in
theorem dX15_oneTick_50 : decode cX15_oneTick 50 = .ok (.invokevirtual 406, 3) := by decide +kernel
set_option maxRecDepth 20000 in
theorem dX15_oneTick_53 : decode cX15_oneTick 53 = .ok (.iinc 1 1, 3) := by decide +kernel
set_option maxRecDepth 20000 in
theorem dX15_oneTick_56 : decode cX15_oneTick 56 = .ok (.goto (-19), 3) := by decide +kernel
set_option maxRecDepth 20000 in
theorem dX15_oneTick_59 : decode cX15_oneTick 59 = .ok (.aload_n 0, 1) := by decide +kernel
set_option maxRecDepth 20000 in
theorem dX15_oneTick_60 : decode cX15_oneTick 60 = .ok (.getfield 340, 3) := by decide +kernel
set_option maxRecDepth 20000 in
theorem dX15_oneTick_63 : decode cX15_oneTick 63 = .ok (.ifCond .ne 16, 3) := by decide +kernel
set_option maxRecDepth 20000 in
theorem dX15_oneTick_66 : decode cX15_oneTick 66 = .ok (.aload_n 0, 1) := by decide +kernel
set_option maxRecDepth 20000 in
theorem dX15_oneTick_67 : decode cX15_oneTick 67 = .ok (.getfield 54, 3) := by decide +kernel
set_option maxRecDepth 20000 in
theorem dX15_oneTick_70 : decode cX15_oneTick 70 = .ok (.bipush 14, 2) := by decide +kernel
set_option maxRecDepth 20000 in
theorem dX15_oneTick_72 : decode cX15_oneTick 72 = .ok (.if_icmp .lt 7, 3) := by decide +kernel
set_option maxRecDepth 20000 in
theorem dX15_oneTick_75 : decode cX15_oneTick 75 = .ok (.aload_n 0, 1) := by decide +kernel
set_option maxRecDepth 20000 in
theorem dX15_oneTick_76 : decode cX15_oneTick 76 = .ok (.invokevirtual 409, 3) := by decide +kernel
set_option maxRecDepth 20000 in
theorem dX15_oneTick_79 : decode cX15_oneTick 79 = .ok (.aload_n 0, 1) := by decide +kernel
set_option maxRecDepth 20000 in
theorem dX15_oneTick_80 : decode cX15_oneTick 80 = .ok (.getfield 306, 3) := by decide +kernel
set_option maxRecDepth 20000 in
theorem dX15_oneTick_83 : decode cX15_oneTick 83 = .ok (.iconst 2, 1) := by decide +kernel
set_option maxRecDepth 20000 in
theorem dX15_oneTick_84 : decode cX15_oneTick 84 = .ok (.if_icmp .ne 82, 3) := by decide +kernel
set_option maxRecDepth 20000 in
theorem dX15_oneTick_87 : decode cX15_oneTick 87 = .ok (.aload_n 0, 1) := by decide +kernel
set_option maxRecDepth 20000 in
theorem dX15_oneTick_88 : decode cX15_oneTick 88 = .ok (.dup, 1) := by decide +kernel
set_option maxRecDepth 20000 in
theorem dX15_oneTick_89 : decode cX15_oneTick 89 = .ok (.getfield 400, 3) := by decide +kernel
set_option maxRecDepth 20000 in
theorem dX15_oneTick_92 : decode cX15_oneTick 92 = .ok (.iconst 1, 1) := by decide +kernel
set_option maxRecDepth 20000 in
theorem dX15_oneTick_93 : decode cX15_oneTick 93 = .ok (.iadd, 1) := by decide +kernel
set_option maxRecDepth 20000 in
theorem dX15_oneTick_94 : decode cX15_oneTick 94 = .ok (.putfield 400, 3) := by decide +kernel
set_option maxRecDepth 20000 in
theorem dX15_oneTick_97 : decode cX15_oneTick 97 = .ok (.aload_n 0, 1) := by decide +kernel
set_option maxRecDepth 20000 in
theorem dX15_oneTick_98 : decode cX15_oneTick 98 = .ok (.getfield 44, 3) := by decide +kernel
set_option maxRecDepth 20000 in
theorem dX15_oneTick_101 : decode cX15_oneTick 101 = .ok (.getfield 292, 3) := by decide +kernel
set_option maxRecDepth 20000 in
theorem dX15_oneTick_104 : decode cX15_oneTick 104 = .ok (.iconst 0, 1) := by decide +kernel
set_option maxRecDepth 20000 in
theorem dX15_oneTick_105 : decode cX15_oneTick 105 = .ok (.aaload, 1) := by decide +kernel
set_option maxRecDepth 20000 in
theorem dX15_oneTick_106 : decode cX15_oneTick 106 = .ok (.iconst 0, 1) := by decide +kernel
set_option maxRecDepth 20000 in
theorem dX15_oneTick_107 : decode cX15_oneTick 107 = .ok (.iaload, 1) := by decide +kernel
set_option maxRecDepth 20000 in
theorem dX15_oneTick_108 : decode cX15_oneTick 108 = .ok (.ifCond .ne 25, 3) := by decide +kernel
set_option maxRecDepth 20000 in
theorem dX15_oneTick_111 : decode cX15_oneTick 111 = .ok (.aload_n 0, 1) := by decide +kernel
set_option maxRecDepth 20000 in
theorem dX15_oneTick_112 : decode cX15_oneTick 112 = .ok (.getfield 400, 3) := by decide +kernel
set_option maxRecDepth 20000 in
theorem dX15_oneTick_115 : decode cX15_oneTick 115 = .ok (.aload_n 0, 1) := by decide +kernel
set_option maxRecDepth 20000 in
theorem dX15_oneTick_116 : decode cX15_oneTick 116 = .ok (.getfield 36, 3) := by decide +kernel
set_option maxRecDepth 20000 in
theorem dX15_oneTick_119 : decode cX15_oneTick 119 = .ok (.if_icmp .lt 47, 3) := by decide +kernel
set_option maxRecDepth 20000 in
theorem dX15_oneTick_122 : decode cX15_oneTick 122 = .ok (.aload_n 0, 1) := by decide +kernel
set_option maxRecDepth 20000 in
theorem dX15_oneTick_123 : decode cX15_oneTick 123 = .ok (.iconst 0, 1) := by decide +kernel
set_option maxRecDepth 20000 in
theorem dX15_oneTick_124 : decode cX15_oneTick 124 = .ok (.iconst 0, 1) := by decide +kernel
set_option maxRecDepth 20000 in
theorem dX15_oneTick_125 : decode cX15_oneTick 125 = .ok (.iconst 0, 1) := by decide +kernel
set_option maxRecDepth 20000 in
theorem dX15_oneTick_126 : decode cX15_oneTick 126 = .ok (.iconst 0, 1) := by decide +kernel
set_option maxRecDepth 20000 in
theorem dX15_oneTick_127 : decode cX15_oneTick 127 = .ok (.invokevirtual 309, 3) := by decide +kernel
set_option maxRecDepth 20000 in
theorem dX15_oneTick_130 : decode cX15_oneTick 130 = .ok (.goto 36, 3) := by decide +kernel
set_option maxRecDepth 20000 in
theorem dX15_oneTick_133 : decode cX15_oneTick 133 = .ok (.aload_n 0, 1) := by decide +kernel
set_option maxRecDepth 20000 in
theorem dX15_oneTick_134 : decode cX15_oneTick 134 = .ok (.getfield 400, 3) := by decide +kernel
set_option maxRecDepth 20000 in
theorem dX15_oneTick_137 : decode cX15_oneTick 137 = .ok (.aload_n 0, 1) := by decide +kernel
set_option maxRecDepth 20000 in
theorem dX15_oneTick_138 : decode cX15_oneTick 138 = .ok (.getfield 33, 3) := by decide +kernel
set_option maxRecDepth 20000 in
theorem dX15_oneTick_141 : decode cX15_oneTick 141 = .ok (.if_icmp .lt 25, 3) := by decide +kernel
set_option maxRecDepth 20000 in
theorem dX15_oneTick_144 : decode cX15_oneTick 144 = .ok (.aload_n 0, 1) := by decide +kernel
set_option maxRecDepth 20000 in
theorem dX15_oneTick_145 : decode cX15_oneTick 145 = .ok (.getfield 340, 3) := by decide +kernel
set_option maxRecDepth 20000 in
theorem dX15_oneTick_148 : decode cX15_oneTick 148 = .ok (.ifCond .ne 18, 3) := by decide +kernel
set_option maxRecDepth 20000 in
theorem dX15_oneTick_151 : decode cX15_oneTick 151 = .ok (.aload_n 0, 1) := by decide +kernel
set_option maxRecDepth 20000 in
theorem dX15_oneTick_152 : decode cX15_oneTick 152 = .ok (.getfield 25, 3) := by decide +kernel
set_option maxRecDepth 20000 in
theorem dX15_oneTick_155 : decode cX15_oneTick 155 = .ok (.getfield 320, 3) := by decide +kernel
set_option maxRecDepth 20000 in
theorem dX15_oneTick_158 : decode cX15_oneTick 158 = .ok (.ifCond .ne 8, 3) := by decide +kernel
set_option maxRecDepth 20000 in
theorem dX15_oneTick_161 : decode cX15_oneTick 161 = .ok (.aload_n 0, 1) := by decide +kernel
set_option maxRecDepth 20000 in
theorem dX15_oneTick_162 : decode cX15_oneTick 162 = .ok (.iconst 1, 1) := by decide +kernel
set_option maxRecDepth 20000 in
theorem dX15_oneTick_163 : decode cX15_oneTick 163 = .ok (.invokevirtual 317, 3) := by decide +kernel
set_option maxRecDepth 20000 in
theorem dX15_oneTick_166 : decode cX15_oneTick 166 = .ok (.iconst 0, 1) := by decide +kernel
set_option maxRecDepth 20000 in
theorem dX15_oneTick_167 : decode cX15_oneTick 167 = .ok (.istore_n 1, 1) := by decide +kernel
set_option maxRecDepth 20000 in
theorem dX15_oneTick_168 : decode cX15_oneTick 168 = .ok (.iload_n 1, 1) := by decide +kernel
set_option maxRecDepth 20000 in
theorem dX15_oneTick_169 : decode cX15_oneTick 169 = .ok (.aload_n 0, 1) := by decide +kernel
set_option maxRecDepth 20000 in
theorem dX15_oneTick_170 : decode cX15_oneTick 170 = .ok (.getfield 78, 3) := by decide +kernel
set_option maxRecDepth 20000 in
theorem dX15_oneTick_173 : decode cX15_oneTick 173 = .ok (.if_icmp .ge 48, 3) := by decide +kernel
set_option maxRecDepth 20000 in
theorem dX15_oneTick_176 : decode cX15_oneTick 176 = .ok (.aload_n 0, 1) := by decide +kernel
set_option maxRecDepth 20000 in
theorem dX15_oneTick_177 : decode cX15_oneTick 177 = .ok (.getfield 9, 3) := by decide +kernel
set_option maxRecDepth 20000 in
theorem dX15_oneTick_180 : decode cX15_oneTick 180 = .ok (.iload_n 1, 1) := by decide +kernel
set_option maxRecDepth 20000 in
theorem dX15_oneTick_181 : decode cX15_oneTick 181 = .ok (.aaload, 1) := by decide +kernel
set_option maxRecDepth 20000 in
theorem dX15_oneTick_182 : decode cX15_oneTick 182 = .ok (.getfield 260, 3) := by decide +kernel
set_option maxRecDepth 20000 in
theorem dX15_oneTick_185 : decode cX15_oneTick 185 = .ok (.ifCond .le 30, 3) := by decide +kernel
set_option maxRecDepth 20000 in
theorem dX15_oneTick_188 : decode cX15_oneTick 188 = .ok (.aload_n 0, 1) := by decide +kernel
set_option maxRecDepth 20000 in
theorem dX15_oneTick_189 : decode cX15_oneTick 189 = .ok (.getfield 9, 3) := by decide +kernel
set_option maxRecDepth 20000 in
theorem dX15_oneTick_192 : decode cX15_oneTick 192 = .ok (.iload_n 1, 1) := by decide +kernel
set_option maxRecDepth 20000 in
theorem dX15_oneTick_193 : decode cX15_oneTick 193 = .ok (.aaload, 1) := by decide +kernel
set_option maxRecDepth 20000 in
theorem dX15_oneTick_194 : decode cX15_oneTick 194 = .ok (.getfield 266, 3) := by decide +kernel
set_option maxRecDepth 20000 in
theorem dX15_oneTick_197 : decode cX15_oneTick 197 = .ok (.ifCond .le 18, 3) := by decide +kernel
set_option maxRecDepth 20000 in
theorem dX15_oneTick_200 : decode cX15_oneTick 200 = .ok (.aload_n 0, 1) := by decide +kernel
set_option maxRecDepth 20000 in
theorem dX15_oneTick_201 : decode cX15_oneTick 201 = .ok (.getfield 9, 3) := by decide +kernel
set_option maxRecDepth 20000 in
theorem dX15_oneTick_204 : decode cX15_oneTick 204 = .ok (.iload_n 1, 1) := by decide +kernel
set_option maxRecDepth 20000 in
theorem dX15_oneTick_205 : decode cX15_oneTick 205 = .ok (.aaload, 1) := by decide +kernel
set_option maxRecDepth 20000 in
theorem dX15_oneTick_206 : decode cX15_oneTick 206 = .ok (.dup, 1) := by decide +kernel
set_option maxRecDepth 20000 in
theorem dX15_oneTick_207 : decode cX15_oneTick 207 = .ok (.getfield 266, 3) := by decide +kernel
set_option maxRecDepth 20000 in
theorem dX15_oneTick_210 : decode cX15_oneTick 210 = .ok (.iconst 1, 1) := by decide +kernel
set_option maxRecDepth 20000 in
theorem dX15_oneTick_211 : decode cX15_oneTick 211 = .ok (.isub, 1) := by decide +kernel
set_option maxRecDepth 20000 in
theorem dX15_oneTick_212 : decode cX15_oneTick 212 = .ok (.putfield 266, 3) := by decide +kernel
set_option maxRecDepth 20000 in
theorem dX15_oneTick_215 : decode cX15_oneTick 215 = .ok (.iinc 1 1, 3) := by decide +kernel
set_option maxRecDepth 20000 in
theorem dX15_oneTick_218 : decode cX15_oneTick 218 = .ok (.goto (-50), 3) := by decide +kernel
set_option maxRecDepth 20000 in
theorem dX15_oneTick_221 : decode cX15_oneTick 221 = .ok (.aload_n 0, 1) := by decide +kernel
set_option maxRecDepth 20000 in
theorem dX15_oneTick_222 : decode cX15_oneTick 222 = .ok (.getfield 340, 3) := by decide +kernel
set_option maxRecDepth 20000 in
theorem dX15_oneTick_225 : decode cX15_oneTick 225 = .ok (.istore_n 1, 1) := by decide +kernel
set_option maxRecDepth 20000 in
theorem dX15_oneTick_226 : decode cX15_oneTick 226 = .ok (.iconst 0, 1) := by decide +kernel
set_option maxRecDepth 20000 in
theorem dX15_oneTick_227 : decode cX15_oneTick 227 = .ok (.istore_n 2, 1) := by decide +kernel
set_option maxRecDepth 20000 in
theorem dX15_oneTick_228 : decode cX15_oneTick 228 = .ok (.aload_n 0, 1) := by decide +kernel
set_option maxRecDepth 20000 in
theorem dX15_oneTick_229 : decode cX15_oneTick 229 = .ok (.getfield 340, 3) := by decide +kernel
set_option maxRecDepth 20000 in
theorem dX15_oneTick_232 : decode cX15_oneTick 232 = .ok (.ifCond .le 11, 3) := by decide +kernel
set_option maxRecDepth 20000 in
theorem dX15_oneTick_235 : decode cX15_oneTick 235 = .ok (.aload_n 0, 1) := by decide +kernel
set_option maxRecDepth 20000 in
theorem dX15_oneTick_236 : decode cX15_oneTick 236 = .ok (.invokevirtual 412, 3) := by decide +kernel
set_option maxRecDepth 20000 in
theorem dX15_oneTick_239 : decode cX15_oneTick 239 = .ok (.istore_n 2, 1) := by decide +kernel
set_option maxRecDepth 20000 in
theorem dX15_oneTick_240 : decode cX15_oneTick 240 = .ok (.goto 13, 3) := by decide +kernel
set_option maxRecDepth 20000 in
theorem dX15_oneTick_243 : decode cX15_oneTick 243 = .ok (.aload_n 0, 1) := by decide +kernel
set_option maxRecDepth 20000 in
theorem dX15_oneTick_244 : decode cX15_oneTick 244 = .ok (.dup, 1) := by decide +kernel
set_option maxRecDepth 20000 in
theorem dX15_oneTick_245 : decode cX15_oneTick 245 = .ok (.getfield 54, 3) := by decide +kernel
set_option maxRecDepth 20000 in
theorem dX15_oneTick_248 : decode cX15_oneTick 248 = .ok (.iconst 1, 1) := by decide +kernel
set_option maxRecDepth 20000 in
theorem dX15_oneTick_249 : decode cX15_oneTick 249 = .ok (.iadd, 1) := by decide +kernel
set_option maxRecDepth 20000 in
theorem dX15_oneTick_250 : decode cX15_oneTick 250 = .ok (.putfield 54, 3) := by decide +kernel
set_option maxRecDepth 20000 in
theorem dX15_oneTick_253 : decode cX15_oneTick 253 = .ok (.iload_n 2, 1) := by decide +kernel
set_option maxRecDepth 20000 in
theorem dX15_oneTick_254 : decode cX15_oneTick 254 = .ok (.ifCond .ne 8, 3) := by decide +kernel
set_option maxRecDepth 20000 in
theorem dX15_oneTick_257 : decode cX15_oneTick 257 = .ok (.aload_n 0, 1) := by decide +kernel
set_option maxRecDepth 20000 in
theorem dX15_oneTick_258 : decode cX15_oneTick 258 = .ok (.iload_n 1, 1) := by decide +kernel
set_option maxRecDepth 20000 in
theorem dX15_oneTick_259 : decode cX15_oneTick 259 = .ok (.invokevirtual 415, 3) := by decide +kernel
set_option maxRecDepth 20000 in
theorem dX15_oneTick_262 : decode cX15_oneTick 262 = .ok (.aload_n 0, 1) := by decide +kernel
set_option maxRecDepth 20000 in
theorem dX15_oneTick_263 : decode cX15_oneTick 263 = .ok (.dup, 1) := by decide +kernel
set_option maxRecDepth 20000 in
theorem dX15_oneTick_264 : decode cX15_oneTick 264 = .ok (.getfield 362, 3) := by decide +kernel
set_option maxRecDepth 20000 in
theorem dX15_oneTick_267 : decode cX15_oneTick 267 = .ok (.iconst 1, 1) := by decide +kernel
set_option maxRecDepth 20000 in
theorem dX15_oneTick_268 : decode cX15_oneTick 268 = .ok (.iadd, 1) := by decide +kernel
set_option maxRecDepth 20000 in
theorem dX15_oneTick_269 : decode cX15_oneTick 269 = .ok (.putfield 362, 3) := by decide +kernel
set_option maxRecDepth 20000 in
theorem dX15_oneTick_272 : decode cX15_oneTick 272 = .ok (.return_, 1) := by decide +kernel
set_option maxRecDepth 20000 in
theorem dX15_silence_0 : decode cX15_silence 0 = .ok (.iload_n 1, 1) := by decide +kernel
set_option maxRecDepth 20000 in
theorem dX15_silence_1 : decode cX15_silence 1 = .ok (.iconst 1, 1) := by decide +kernel
set_option maxRecDepth 20000 in
theorem dX15_silence_2 : decode cX15_silence 2 = .ok (.if_icmp .eq 49, 3) := by decide +kernel
set_option maxRecDepth 20000 in
theorem dX15_silence_5 : decode cX15_silence 5 = .ok (.aload_n 0, 1) := by decide +kernel
set_option maxRecDepth 20000 in
theorem dX15_silence_6 : decode cX15_silence 6 = .ok (.getfield 25, 3) := by decide +kernel
set_option maxRecDepth 20000 in
theorem dX15_silence_9 : decode cX15_silence 9 = .ok (.dup, 1) := by decide +kernel
set_option maxRecDepth 20000 in
theorem dX15_silence_10 : decode cX15_silence 10 = .ok (.getfield 418, 3) := by decide +kernel
set_option maxRecDepth 20000 in
theorem dX15_silence_13 : decode cX15_silence 13 = .ok (.iconst 1, 1) := by decide +kernel
set_option maxRecDepth 20000 in
theorem dX15_silence_14 : decode cX15_silence 14 = .ok (.iadd, 1) := by decide +kernel
set_option maxRecDepth 20000 in
theorem dX15_silence_15 : decode cX15_silence 15 = .ok (.putfield 418, 3) := by decide +kernel
set_option maxRecDepth 20000 in
theorem dX15_silence_18 : decode cX15_silence 18 = .ok (.aload_n 0, 1) := by decide +kernel
set_option maxRecDepth 20000 in
theorem dX15_silence_19 : decode cX15_silence 19 = .ok (.getfield 25, 3) := by decide +kernel
set_option maxRecDepth 20000 in
theorem dX15_silence_22 : decode cX15_silence 22 = .ok (.getfield 418, 3) := by decide +kernel
set_option maxRecDepth 20000 in
theorem dX15_silence_25 : decode cX15_silence 25 = .ok (.bipush 14, 2) := by decide +kernel
set_option maxRecDepth 20000 in
theorem dX15_silence_27 : decode cX15_silence 27 = .ok (.if_icmp .ne 24, 3) := by decide +kernel
set_option maxRecDepth 20000 in
theorem dX15_silence_30 : decode cX15_silence 30 = .ok (.aload_n 0, 1) := by decide +kernel
set_option maxRecDepth 20000 in
theorem dX15_silence_31 : decode cX15_silence 31 = .ok (.getfield 25, 3) := by decide +kernel
set_option maxRecDepth 20000 in
theorem dX15_silence_34 : decode cX15_silence 34 = .ok (.getfield 320, 3) := by decide +kernel
set_option maxRecDepth 20000 in
theorem dX15_silence_37 : decode cX15_silence 37 = .ok (.ifCond .le 14, 3) := by decide +kernel
set_option maxRecDepth 20000 in
theorem dX15_silence_40 : decode cX15_silence 40 = .ok (.aload_n 0, 1) := by decide +kernel
set_option maxRecDepth 20000 in
theorem dX15_silence_41 : decode cX15_silence 41 = .ok (.invokevirtual 421, 3) := by decide +kernel
set_option maxRecDepth 20000 in
theorem dX15_silence_44 : decode cX15_silence 44 = .ok (.aload_n 0, 1) := by decide +kernel
set_option maxRecDepth 20000 in
theorem dX15_silence_45 : decode cX15_silence 45 = .ok (.getfield 25, 3) := by decide +kernel
set_option maxRecDepth 20000 in
theorem dX15_silence_48 : decode cX15_silence 48 = .ok (.invokevirtual 424, 3) := by decide +kernel
set_option maxRecDepth 20000 in
theorem dX15_silence_51 : decode cX15_silence 51 = .ok (.iconst 0, 1) := by decide +kernel
set_option maxRecDepth 20000 in
theorem dX15_silence_52 : decode cX15_silence 52 = .ok (.istore_n 2, 1) := by decide +kernel
set_option maxRecDepth 20000 in
theorem dX15_silence_53 : decode cX15_silence 53 = .ok (.iload_n 2, 1) := by decide +kernel
set_option maxRecDepth 20000 in
theorem dX15_silence_54 : decode cX15_silence 54 = .ok (.aload_n 0, 1) := by decide +kernel
set_option maxRecDepth 20000 in
theorem dX15_silence_55 : decode cX15_silence 55 = .ok (.getfield 78, 3) := by decide +kernel
set_option maxRecDepth 20000 in
theorem dX15_silence_58 : decode cX15_silence 58 = .ok (.if_icmp .ge 61, 3) := by decide +kernel
set_option maxRecDepth 20000 in
theorem dX15_silence_61 : decode cX15_silence 61 = .ok (.aload_n 0, 1) := by decide +kernel
set_option maxRecDepth 20000 in
theorem dX15_silence_62 : decode cX15_silence 62 = .ok (.getfield 9, 3) := by decide +kernel
set_option maxRecDepth 20000 in
theorem dX15_silence_65 : decode cX15_silence 65 = .ok (.iload_n 2, 1) := by decide +kernel
set_option maxRecDepth 20000 in
theorem dX15_silence_66 : decode cX15_silence 66 = .ok (.aaload, 1) := by decide +kernel
set_option maxRecDepth 20000 in
theorem dX15_silence_67 : decode cX15_silence 67 = .ok (.astore_n 3, 1) := by decide +kernel
set_option maxRecDepth 20000 in
theorem dX15_silence_68 : decode cX15_silence 68 = .ok (.iload_n 1, 1) := by decide +kernel
set_option maxRecDepth 20000 in
theorem dX15_silence_69 : decode cX15_silence 69 = .ok (.iconst 2, 1) := by decide +kernel
set_option maxRecDepth 20000 in
theorem dX15_silence_70 : decode cX15_silence 70 = .ok (.iload_n 2, 1) := by decide +kernel
set_option maxRecDepth 20000 in
theorem dX15_silence_71 : decode cX15_silence 71 = .ok (.iadd, 1) := by decide +kernel
set_option maxRecDepth 20000 in
theorem dX15_silence_72 : decode cX15_silence 72 = .ok (.if_icmp .ne 6, 3) := by decide +kernel
set_option maxRecDepth 20000 in
theorem dX15_silence_75 : decode cX15_silence 75 = .ok (.goto 38, 3) := by decide +kernel
set_option maxRecDepth 20000 in
theorem dX15_silence_78 : decode cX15_silence 78 = .ok (.aload_n 3, 1) := by decide +kernel
set_option maxRecDepth 20000 in
theorem dX15_silence_79 : decode cX15_silence 79 = .ok (.dup, 1) := by decide +kernel
set_option maxRecDepth 20000 in
theorem dX15_silence_80 : decode cX15_silence 80 = .ok (.getfield 427, 3) := by decide +kernel
set_option maxRecDepth 20000 in
theorem dX15_silence_83 : decode cX15_silence 83 = .ok (.iconst 1, 1) := by decide +kernel
set_option maxRecDepth 20000 in
theorem dX15_silence_84 : decode cX15_silence 84 = .ok (.iadd, 1) := by decide +kernel
set_option maxRecDepth 20000 in
theorem dX15_silence_85 : decode cX15_silence 85 = .ok (.putfield 427, 3) := by decide +kernel
set_option maxRecDepth 20000 in
theorem dX15_silence_88 : decode cX15_silence 88 = .ok (.aload_n 3, 1) := by decide +kernel
set_option maxRecDepth 20000 in
theorem dX15_silence_89 : decode cX15_silence 89 = .ok (.getfield 427, 3) := by decide +kernel
set_option maxRecDepth 20000 in
theorem dX15_silence_92 : decode cX15_silence 92 = .ok (.bipush 14, 2) := by decide +kernel
set_option maxRecDepth 20000 in
theorem dX15_silence_94 : decode cX15_silence 94 = .ok (.if_icmp .ne 19, 3) := by decide +kernel
set_option maxRecDepth 20000 in
theorem dX15_silence_97 : decode cX15_silence 97 = .ok (.aload_n 3, 1) := by decide +kernel
set_option maxRecDepth 20000 in
theorem dX15_silence_98 : decode cX15_silence 98 = .ok (.getfield 251, 3) := by decide +kernel
set_option maxRecDepth 20000 in
theorem dX15_silence_101 : decode cX15_silence 101 = .ok (.ifCond .le 12, 3) := by decide +kernel
set_option maxRecDepth 20000 in
theorem dX15_silence_104 : decode cX15_silence 104 = .ok (.aload_n 0, 1) := by decide +kernel
set_option maxRecDepth 20000 in
theorem dX15_silence_105 : decode cX15_silence 105 = .ok (.aload_n 3, 1) := by decide +kernel
set_option maxRecDepth 20000 in
theorem dX15_silence_106 : decode cX15_silence 106 = .ok (.invokevirtual 428, 3) := by decide +kernel
set_option maxRecDepth 20000 in
theorem dX15_silence_109 : decode cX15_silence 109 = .ok (.aload_n 3, 1) := by decide +kernel
set_option maxRecDepth 20000 in
theorem dX15_silence_110 : decode cX15_silence 110 = .ok (.invokevirtual 431, 3) := by decide +kernel
set_option maxRecDepth 20000 in
theorem dX15_silence_113 : decode cX15_silence 113 = .ok (.iinc 2 1, 3) := by decide +kernel
set_option maxRecDepth 20000 in
theorem dX15_silence_116 : decode cX15_silence 116 = .ok (.goto (-63), 3) := by decide +kernel
set_option maxRecDepth 20000 in
theorem dX15_silence_119 : decode cX15_silence 119 = .ok (.return_, 1) := by decide +kernel
set_option maxRecDepth 20000 in
theorem dX15_feed_0 : decode cX15_feed 0 = .ok (.aload_n 0, 1) := by decide +kernel
set_option maxRecDepth 20000 in
theorem dX15_feed_1 : decode cX15_feed 1 = .ok (.iconst 0, 1) := by decide +kernel
set_option maxRecDepth 20000 in
theorem dX15_feed_2 : decode cX15_feed 2 = .ok (.putfield 73, 3) := by decide +kernel
set_option maxRecDepth 20000 in
theorem dX15_feed_5 : decode cX15_feed 5 = .ok (.aload_n 0, 1) := by decide +kernel
set_option maxRecDepth 20000 in
theorem dX15_feed_6 : decode cX15_feed 6 = .ok (.getfield 432, 3) := by decide +kernel
set_option maxRecDepth 20000 in
theorem dX15_feed_9 : decode cX15_feed 9 = .ok (.bipush 20, 2) := by decide +kernel
set_option maxRecDepth 20000 in
theorem dX15_feed_11 : decode cX15_feed 11 = .ok (.iadd, 1) := by decide +kernel
set_option maxRecDepth 20000 in
theorem dX15_feed_12 : decode cX15_feed 12 = .ok (.sipush 400, 3) := by decide +kernel
set_option maxRecDepth 20000 in
theorem dX15_feed_15 : decode cX15_feed 15 = .ok (.if_icmp .le 5, 3) := by decide +kernel
set_option maxRecDepth 20000 in
theorem dX15_feed_18 : decode cX15_feed 18 = .ok (.iconst (-1), 1) := by decide +kernel
set_option maxRecDepth 20000 in
theorem dX15_feed_19 : decode cX15_feed 19 = .ok (.ireturn, 1) := by decide +kernel
set_option maxRecDepth 20000 in
theorem dX15_feed_20 : decode cX15_feed 20 = .ok (.iconst 0, 1) := by decide +kernel
set_option maxRecDepth 20000 in
theorem dX15_feed_21 : decode cX15_feed 21 = .ok (.istore 6, 2) := by decide +kernel
set_option maxRecDepth 20000 in
theorem dX15_feed_23 : decode cX15_feed 23 = .ok (.iload 6, 2) := by decide +kernel
set_option maxRecDepth 20000 in
theorem dX15_feed_25 : decode cX15_feed 25 = .ok (.bipush 20, 2) := by decide +kernel
set_option maxRecDepth 20000 in
theorem dX15_feed_27 : decode cX15_feed 27 = .ok (.if_icmp .ge 93, 3) := by decide +kernel
set_option maxRecDepth 20000 in
theorem dX15_feed_30 : decode cX15_feed 30 = .ok (.iload 6, 2) := by decide +kernel
set_option maxRecDepth 20000 in
theorem dX15_feed_32 : decode cX15_feed 32 = .ok (.iconst 4, 1) := by decide +kernel
set_option maxRecDepth 20000 in
theorem dX15_feed_33 : decode cX15_feed 33 = .ok (.if_icmp .ge 7, 3) := by decide +kernel
set_option maxRecDepth 20000 in
theorem dX15_feed_36 : decode cX15_feed 36 = .ok (.iload_n 1, 1) := by decide +kernel
set_option maxRecDepth 20000 in
theorem dX15_feed_37 : decode cX15_feed 37 = .ok (.goto 39, 3) := by decide +kernel
set_option maxRecDepth 20000 in
theorem dX15_feed_40 : decode cX15_feed 40 = .ok (.iload 6, 2) := by decide +kernel
set_option maxRecDepth 20000 in
theorem dX15_feed_42 : decode cX15_feed 42 = .ok (.bipush 8, 2) := by decide +kernel
set_option maxRecDepth 20000 in
theorem dX15_feed_44 : decode cX15_feed 44 = .ok (.if_icmp .ge 7, 3) := by decide +kernel
set_option maxRecDepth 20000 in
theorem dX15_feed_47 : decode cX15_feed 47 = .ok (.iload_n 2, 1) := by decide +kernel
set_option maxRecDepth 20000 in
theorem dX15_feed_48 : decode cX15_feed 48 = .ok (.goto 28, 3) := by decide +kernel
set_option maxRecDepth 20000 in
theorem dX15_feed_51 : decode cX15_feed 51 = .ok (.iload 6, 2) := by decide +kernel
set_option maxRecDepth 20000 in
theorem dX15_feed_53 : decode cX15_feed 53 = .ok (.bipush 12, 2) := by decide +kernel
set_option maxRecDepth 20000 in
theorem dX15_feed_55 : decode cX15_feed 55 = .ok (.if_icmp .ge 7, 3) := by decide +kernel
set_option maxRecDepth 20000 in
theorem dX15_feed_58 : decode cX15_feed 58 = .ok (.iload_n 3, 1) := by decide +kernel
set_option maxRecDepth 20000 in
theorem dX15_feed_59 : decode cX15_feed 59 = .ok (.goto 17, 3) := by decide +kernel
set_option maxRecDepth 20000 in
theorem dX15_feed_62 : decode cX15_feed 62 = .ok (.iload 6, 2) := by decide +kernel
set_option maxRecDepth 20000 in
theorem dX15_feed_64 : decode cX15_feed 64 = .ok (.bipush 16, 2) := by decide +kernel
set_option maxRecDepth 20000 in
theorem dX15_feed_66 : decode cX15_feed 66 = .ok (.if_icmp .ge 8, 3) := by decide +kernel
set_option maxRecDepth 20000 in
theorem dX15_feed_69 : decode cX15_feed 69 = .ok (.iload 4, 2) := by decide +kernel
set_option maxRecDepth 20000 in
theorem dX15_feed_71 : decode cX15_feed 71 = .ok (.goto 5, 3) := by decide +kernel
set_option maxRecDepth 20000 in
theorem dX15_feed_74 : decode cX15_feed 74 = .ok (.iload 5, 2) := by decide +kernel
set_option maxRecDepth 20000 in
theorem dX15_feed_76 : decode cX15_feed 76 = .ok (.istore 7, 2) := by decide +kernel
set_option maxRecDepth 20000 in
theorem dX15_feed_78 : decode cX15_feed 78 = .ok (.aload_n 0, 1) := by decide +kernel
set_option maxRecDepth 20000 in
theorem dX15_feed_79 : decode cX15_feed 79 = .ok (.getfield 66, 3) := by decide +kernel
set_option maxRecDepth 20000 in
theorem dX15_feed_82 : decode cX15_feed 82 = .ok (.aload_n 0, 1) := by decide +kernel
set_option maxRecDepth 20000 in
theorem dX15_feed_83 : decode cX15_feed 83 = .ok (.getfield 432, 3) := by decide +kernel
set_option maxRecDepth 20000 in
theorem dX15_feed_86 : decode cX15_feed 86 = .ok (.iload 7, 2) := by decide +kernel
set_option maxRecDepth 20000 in
theorem dX15_feed_88 : decode cX15_feed 88 = .ok (.bipush 24, 2) := by decide +kernel
set_option maxRecDepth 20000 in
theorem dX15_feed_90 : decode cX15_feed 90 = .ok (.bipush 8, 2) := by decide +kernel
set_option maxRecDepth 20000 in
theorem dX15_feed_92 : decode cX15_feed 92 = .ok (.iload 6, 2) := by decide +kernel
set_option maxRecDepth 20000 in
theorem dX15_feed_94 : decode cX15_feed 94 = .ok (.iconst 4, 1) := by decide +kernel
set_option maxRecDepth 20000 in
theorem dX15_feed_95 : decode cX15_feed 95 = .ok (.irem, 1) := by decide +kernel
set_option maxRecDepth 20000 in
theorem dX15_feed_96 : decode cX15_feed 96 = .ok (.imul, 1) := by decide +kernel
set_option maxRecDepth 20000 in
theorem dX15_feed_97 : decode cX15_feed 97 = .ok (.isub, 1) := by decide +kernel
set_option maxRecDepth 20000 in
theorem dX15_feed_98 : decode cX15_feed 98 = .ok (.ishr, 1) := by decide +kernel
set_option maxRecDepth 20000 in
theorem dX15_feed_99 : decode cX15_feed 99 = .ok (.sipush 255, 3) := by decide +kernel
set_option maxRecDepth 20000 in
theorem dX15_feed_102 : decode cX15_feed 102 = .ok (.iand, 1) := by decide +kernel
set_option maxRecDepth 20000 in
theorem dX15_feed_103 : decode cX15_feed 103 = .ok (.iastore, 1) := by decide +kernel
set_option maxRecDepth 20000 in
theorem dX15_feed_104 : decode cX15_feed 104 = .ok (.aload_n 0, 1) := by decide +kernel
set_option maxRecDepth 20000 in
theorem dX15_feed_105 : decode cX15_feed 105 = .ok (.dup, 1) := by decide +kernel
set_option maxRecDepth 20000 in
theorem dX15_feed_106 : decode cX15_feed 106 = .ok (.getfield 432, 3) := by decide +kernel
set_option maxRecDepth 20000 in
theorem dX15_feed_109 : decode cX15_feed 109 = .ok (.iconst 1, 1) := by decide +kernel
set_option maxRecDepth 20000 in
theorem dX15_feed_110 : decode cX15_feed 110 = .ok (.iadd, 1) := by decide +kernel
set_option maxRecDepth 20000 in
theorem dX15_feed_111 : decode cX15_feed 111 = .ok (.putfield 432, 3) := by decide +kernel
set_option maxRecDepth 20000 in
theorem dX15_feed_114 : decode cX15_feed 114 = .ok (.iinc 6 1, 3) := by decide +kernel
set_option maxRecDepth 20000 in
theorem dX15_feed_117 : decode cX15_feed 117 = .ok (.goto (-94), 3) := by decide +kernel
set_option maxRecDepth 20000 in
theorem dX15_feed_120 : decode cX15_feed 120 = .ok (.aload_n 0, 1) := by decide +kernel
set_option maxRecDepth 20000 in
theorem dX15_feed_121 : decode cX15_feed 121 = .ok (.getfield 432, 3) := by decide +kernel
set_option maxRecDepth 20000 in
theorem dX15_feed_124 : decode cX15_feed 124 = .ok (.ireturn, 1) := by decide +kernel
set_option maxRecDepth 20000 in
theorem dX15_end_0 : decode cX15_end 0 = .ok (.aload_n 0, 1) := by decide +kernel
set_option maxRecDepth 20000 in
theorem dX15_end_1 : decode cX15_end 1 = .ok (.iconst 0, 1) := by decide +kernel
set_option maxRecDepth 20000 in
theorem dX15_end_2 : decode cX15_end 2 = .ok (.putfield 73, 3) := by decide +kernel
set_option maxRecDepth 20000 in
theorem dX15_end_5 : decode cX15_end 5 = .ok (.iload_n 1, 1) := by decide +kernel
set_option maxRecDepth 20000 in
theorem dX15_end_6 : decode cX15_end 6 = .ok (.iconst 0, 1) := by decide +kernel
set_option maxRecDepth 20000 in
theorem dX15_end_7 : decode cX15_end 7 = .ok (.aload_n 0, 1) := by decide +kernel
set_option maxRecDepth 20000 in
theorem dX15_end_8 : decode cX15_end 8 = .ok (.getfield 432, 3) := by decide +kernel
set_option maxRecDepth 20000 in
theorem dX15_end_11 : decode cX15_end 11 = .ok (.invokestatic 81, 3) := by decide +kernel
set_option maxRecDepth 20000 in
theorem dX15_end_14 : decode cX15_end 14 = .ok (.ifCond .ne 5, 3) := by decide +kernel
set_option maxRecDepth 20000 in
theorem dX15_end_17 : decode cX15_end 17 = .ok (.iconst (-1), 1) := by decide +kernel
set_option maxRecDepth 20000 in
theorem dX15_end_18 : decode cX15_end 18 = .ok (.ireturn, 1) := by decide +kernel
set_option maxRecDepth 20000 in
theorem dX15_end_19 : decode cX15_end 19 = .ok (.aload_n 0, 1) := by decide +kernel
set_option maxRecDepth 20000 in
theorem dX15_end_20 : decode cX15_end 20 = .ok (.iload_n 1, 1) := by decide +kernel
set_option maxRecDepth 20000 in
theorem dX15_end_21 : decode cX15_end 21 = .ok (.putfield 432, 3) := by decide +kernel
set_option maxRecDepth 20000 in
theorem dX15_end_24 : decode cX15_end 24 = .ok (.iload_n 1, 1) := by decide +kernel
set_option maxRecDepth 20000 in
theorem dX15_end_25 : decode cX15_end 25 = .ok (.ireturn, 1) := by decide +kernel
set_option maxRecDepth 20000 in
theorem dX15_sum_0 : decode cX15_sum 0 = .ok (.aload_n 0, 1) := by decide +kernel
set_option maxRecDepth 20000 in
theorem dX15_sum_1 : decode cX15_sum 1 = .ok (.iconst 0, 1) := by decide +kernel
set_option maxRecDepth 20000 in
theorem dX15_sum_2 : decode cX15_sum 2 = .ok (.putfield 73, 3) := by decide +kernel
set_option maxRecDepth 20000 in
theorem dX15_sum_5 : decode cX15_sum 5 = .ok (.aload_n 0, 1) := by decide +kernel
set_option maxRecDepth 20000 in
theorem dX15_sum_6 : decode cX15_sum 6 = .ok (.getfield 66, 3) := by decide +kernel
set_option maxRecDepth 20000 in
theorem dX15_sum_9 : decode cX15_sum 9 = .ok (.aload_n 0, 1) := by decide +kernel
set_option maxRecDepth 20000 in
theorem dX15_sum_10 : decode cX15_sum 10 = .ok (.getfield 432, 3) := by decide +kernel
set_option maxRecDepth 20000 in
theorem dX15_sum_13 : decode cX15_sum 13 = .ok (.invokestatic 343, 3) := by decide +kernel
set_option maxRecDepth 20000 in
theorem dX15_sum_16 : decode cX15_sum 16 = .ok (.ireturn, 1) := by decide +kernel
set_option maxRecDepth 20000 in
theorem dX15_device_0 : decode cX15_device 0 = .ok (.aload_n 0, 1) := by decide +kernel
set_option maxRecDepth 20000 in
theorem dX15_device_1 : decode cX15_device 1 = .ok (.iconst 0, 1) := by decide +kernel
set_option maxRecDepth 20000 in
theorem dX15_device_2 : decode cX15_device 2 = .ok (.putfield 73, 3) := by decide +kernel
set_option maxRecDepth 20000 in
theorem dX15_device_5 : decode cX15_device 5 = .ok (.aload_n 0, 1) := by decide +kernel
set_option maxRecDepth 20000 in
theorem dX15_device_6 : decode cX15_device 6 = .ok (.getfield 78, 3) := by decide +kernel
set_option maxRecDepth 20000 in
theorem dX15_device_9 : decode cX15_device 9 = .ok (.bipush 6, 2) := by decide +kernel
set_option maxRecDepth 20000 in
theorem dX15_device_11 : decode cX15_device 11 = .ok (.if_icmp .eq 25, 3) := by decide +kernel
set_option maxRecDepth 20000 in
theorem dX15_device_14 : decode cX15_device 14 = .ok (.iload_n 1, 1) := by decide +kernel
set_option maxRecDepth 20000 in
theorem dX15_device_15 : decode cX15_device 15 = .ok (.iconst 1, 1) := by decide +kernel
set_option maxRecDepth 20000 in
theorem dX15_device_16 : decode cX15_device 16 = .ok (.sipush 247, 3) := by decide +kernel
set_option maxRecDepth 20000 in
theorem dX15_device_19 : decode cX15_device 19 = .ok (.invokestatic 81, 3) := by decide +kernel
set_option maxRecDepth 20000 in
theorem dX15_device_22 : decode cX15_device 22 = .ok (.ifCond .eq 14, 3) := by decide +kernel
set_option maxRecDepth 20000 in
theorem dX15_device_25 : decode cX15_device 25 = .ok (.iload_n 2, 1) := by decide +kernel
set_option maxRecDepth 20000 in
theorem dX15_device_26 : decode cX15_device 26 = .ok (.iconst 0, 1) := by decide +kernel
set_option maxRecDepth 20000 in
theorem dX15_device_27 : decode cX15_device 27 = .ok (.sipush 2000, 3) := by decide +kernel
set_option maxRecDepth 20000 in
theorem dX15_device_30 : decode cX15_device 30 = .ok (.invokestatic 81, 3) := by decide +kernel
set_option maxRecDepth 20000 in
theorem dX15_device_33 : decode cX15_device 33 = .ok (.ifCond .ne 5, 3) := by decide +kernel
set_option maxRecDepth 20000 in
theorem dX15_device_36 : decode cX15_device 36 = .ok (.iconst (-1), 1) := by decide +kernel
set_option maxRecDepth 20000 in
theorem dX15_device_37 : decode cX15_device 37 = .ok (.ireturn, 1) := by decide +kernel
set_option maxRecDepth 20000 in
theorem dX15_device_38 : decode cX15_device 38 = .ok (.iconst 0, 1) := by decide +kernel
set_option maxRecDepth 20000 in
theorem dX15_device_39 : decode cX15_device 39 = .ok (.istore_n 3, 1) := by decide +kernel
set_option maxRecDepth 20000 in
theorem dX15_device_40 : decode cX15_device 40 = .ok (.iload_n 3, 1) := by decide +kernel
set_option maxRecDepth 20000 in
theorem dX15_device_41 : decode cX15_device 41 = .ok (.aload_n 0, 1) := by decide +kernel
set_option maxRecDepth 20000 in
theorem dX15_device_42 : decode cX15_device 42 = .ok (.getfield 78, 3) := by decide +kernel
set_option maxRecDepth 20000 in
theorem dX15_device_45 : decode cX15_device 45 = .ok (.if_icmp .ge 24, 3) := by decide +kernel
set_option maxRecDepth 20000 in
theorem dX15_device_48 : decode cX15_device 48 = .ok (.aload_n 0, 1) := by decide +kernel
set_option maxRecDepth 20000 in
theorem dX15_device_49 : decode cX15_device 49 = .ok (.getfield 9, 3) := by decide +kernel
set_option maxRecDepth 20000 in
theorem dX15_device_52 : decode cX15_device 52 = .ok (.iload_n 3, 1) := by decide +kernel
set_option maxRecDepth 20000 in
theorem dX15_device_53 : decode cX15_device 53 = .ok (.aaload, 1) := by decide +kernel
set_option maxRecDepth 20000 in
theorem dX15_device_54 : decode cX15_device 54 = .ok (.getfield 248, 3) := by decide +kernel
set_option maxRecDepth 20000 in
theorem dX15_device_57 : decode cX15_device 57 = .ok (.iload_n 1, 1) := by decide +kernel
set_option maxRecDepth 20000 in
theorem dX15_device_58 : decode cX15_device 58 = .ok (.if_icmp .ne 5, 3) := by decide +kernel
set_option maxRecDepth 20000 in
theorem dX15_device_61 : decode cX15_device 61 = .ok (.iconst (-1), 1) := by decide +kernel
set_option maxRecDepth 20000 in
theorem dX15_device_62 : decode cX15_device 62 = .ok (.ireturn, 1) := by decide +kernel
set_option maxRecDepth 20000 in
theorem dX15_device_63 : decode cX15_device 63 = .ok (.iinc 3 1, 3) := by decide +kernel
set_option maxRecDepth 20000 in
theorem dX15_device_66 : decode cX15_device 66 = .ok (.goto (-26), 3) := by decide +kernel
set_option maxRecDepth 20000 in
theorem dX15_device_69 : decode cX15_device 69 = .ok (.aload_n 0, 1) := by decide +kernel
set_option maxRecDepth 20000 in
theorem dX15_device_70 : decode cX15_device 70 = .ok (.getfield 9, 3) := by decide +kernel
set_option maxRecDepth 20000 in
theorem dX15_device_73 : decode cX15_device 73 = .ok (.aload_n 0, 1) := by decide +kernel
set_option maxRecDepth 20000 in
theorem dX15_device_74 : decode cX15_device 74 = .ok (.getfield 78, 3) := by decide +kernel
set_option maxRecDepth 20000 in
theorem dX15_device_77 : decode cX15_device 77 = .ok (.aaload, 1) := by decide +kernel
set_option maxRecDepth 20000 in
theorem dX15_device_78 : decode cX15_device 78 = .ok (.astore_n 3, 1) := by decide +kernel
set_option maxRecDepth 20000 in
theorem dX15_device_79 : decode cX15_device 79 = .ok (.aload_n 3, 1) := by decide +kernel
set_option maxRecDepth 20000 in
theorem dX15_device_80 : decode cX15_device 80 = .ok (.iload_n 1, 1) := by decide +kernel
set_option maxRecDepth 20000 in
theorem dX15_device_81 : decode cX15_device 81 = .ok (.putfield 248, 3) := by decide +kernel
set_option maxRecDepth 20000 in
theorem dX15_device_84 : decode cX15_device 84 = .ok (.aload_n 3, 1) := by decide +kernel
set_option maxRecDepth 20000 in
theorem dX15_device_85 : decode cX15_device 85 = .ok (.iload_n 2, 1) := by decide +kernel
set_option maxRecDepth 20000 in
theorem dX15_device_86 : decode cX15_device 86 = .ok (.putfield 263, 3) := by decide +kernel
set_option maxRecDepth 20000 in
theorem dX15_device_89 : decode cX15_device 89 = .ok (.aload_n 3, 1) := by decide +kernel
set_option maxRecDepth 20000 in
theorem dX15_device_90 : decode cX15_device 90 = .ok (.aload_n 0, 1) := by decide +kernel
set_option maxRecDepth 20000 in
theorem dX15_device_91 : decode cX15_device 91 = .ok (.getfield 78, 3) := by decide +kernel
set_option maxRecDepth 20000 in
theorem dX15_device_94 : decode cX15_device 94 = .ok (.putfield 195, 3) := by decide +kernel
set_option maxRecDepth 20000 in
theorem dX15_device_97 : decode cX15_device 97 = .ok (.aload_n 0, 1) := by decide +kernel
set_option maxRecDepth 20000 in
theorem dX15_device_98 : decode cX15_device 98 = .ok (.dup, 1) := by decide +kernel
set_option maxRecDepth 20000 in
theorem dX15_device_99 : decode cX15_device 99 = .ok (.getfield 78, 3) := by decide +kernel
set_option maxRecDepth 20000 in
theorem dX15_device_102 : decode cX15_device 102 = .ok (.iconst 1, 1) := by decide +kernel
set_option maxRecDepth 20000 in
theorem dX15_device_103 : decode cX15_device 103 = .ok (.iadd, 1) := by decide +kernel
set_option maxRecDepth 20000 in
theorem dX15_device_104 : decode cX15_device 104 = .ok (.putfield 78, 3) := by decide +kernel
set_option maxRecDepth 20000 in
theorem dX15_device_107 : decode cX15_device 107 = .ok (.aload_n 3, 1) := by decide +kernel
set_option maxRecDepth 20000 in
theorem dX15_device_108 : decode cX15_device 108 = .ok (.getfield 195, 3) := by decide +kernel
set_option maxRecDepth 20000 in
theorem dX15_device_111 : decode cX15_device 111 = .ok (.ireturn, 1) := by decide +kernel
set_option maxRecDepth 20000 in
theorem dX15_bank_0 : decode cX15_bank 0 = .ok (.aload_n 0, 1) := by decide +kernel
set_option maxRecDepth 20000 in
theorem dX15_bank_1 : decode cX15_bank 1 = .ok (.iconst 0, 1) := by decide +kernel
set_option maxRecDepth 20000 in
theorem dX15_bank_2 : decode cX15_bank 2 = .ok (.putfield 73, 3) := by decide +kernel
set_option maxRecDepth 20000 in
theorem dX15_bank_5 : decode cX15_bank 5 = .ok (.aload_n 0, 1) := by decide +kernel
set_option maxRecDepth 20000 in
theorem dX15_bank_6 : decode cX15_bank 6 = .ok (.iload_n 1, 1) := by decide +kernel
set_option maxRecDepth 20000 in
theorem dX15_bank_7 : decode cX15_bank 7 = .ok (.invokevirtual 435, 3) := by decide +kernel
set_option maxRecDepth 20000 in
theorem dX15_bank_10 : decode cX15_bank 10 = .ok (.ifCond .eq 44, 3) := by decide +kernel
set_option maxRecDepth 20000 in
theorem dX15_bank_13 : decode cX15_bank 13 = .ok (.iload_n 2, 1) := by decide +kernel
set_option maxRecDepth 20000 in
theorem dX15_bank_14 : decode cX15_bank 14 = .ok (.iconst 0, 1) := by decide +kernel
set_option maxRecDepth 20000 in
theorem dX15_bank_15 : decode cX15_bank 15 = .ok (.iconst 3, 1) := by decide +kernel
set_option maxRecDepth 20000 in
theorem dX15_bank_16 : decode cX15_bank 16 = .ok (.invokestatic 81, 3) := by decide +kernel
set_option maxRecDepth 20000 in
theorem dX15_bank_19 : decode cX15_bank 19 = .ok (.ifCond .eq 35, 3) := by decide +kernel
set_option maxRecDepth 20000 in
theorem dX15_bank_22 : decode cX15_bank 22 = .ok (.iload 4, 2) := by decide +kernel
set_option maxRecDepth 20000 in
theorem dX15_bank_24 : decode cX15_bank 24 = .ok (.iconst 0, 1) := by decide +kernel
set_option maxRecDepth 20000 in
theorem dX15_bank_25 : decode cX15_bank 25 = .ok (.sipush 400, 3) := by decide +kernel
set_option maxRecDepth 20000 in
theorem dX15_bank_28 : decode cX15_bank 28 = .ok (.invokestatic 81, 3) := by decide +kernel
set_option maxRecDepth 20000 in
theorem dX15_bank_31 : decode cX15_bank 31 = .ok (.ifCond .eq 23, 3) := by decide +kernel
set_option maxRecDepth 20000 in
theorem dX15_bank_34 : decode cX15_bank 34 = .ok (.iload_n 3, 1) := by decide +kernel
set_option maxRecDepth 20000 in
theorem dX15_bank_35 : decode cX15_bank 35 = .ok (.iconst 0, 1) := by decide +kernel
set_option maxRecDepth 20000 in
theorem dX15_bank_36 : decode cX15_bank 36 = .ok (.ldc 76, 2) := by decide +kernel
set_option maxRecDepth 20000 in
theorem dX15_bank_38 : decode cX15_bank 38 = .ok (.invokestatic 81, 3) := by decide +kernel
set_option maxRecDepth 20000 in
theorem dX15_bank_41 : decode cX15_bank 41 = .ok (.ifCond .eq 13, 3) := by decide +kernel
set_option maxRecDepth 20000 in
theorem dX15_bank_44 : decode cX15_bank 44 = .ok (.iload_n 3, 1) := by decide +kernel
set_option maxRecDepth 20000 in
theorem dX15_bank_45 : decode cX15_bank 45 = .ok (.iload 4, 2) := by decide +kernel
set_option maxRecDepth 20000 in
theorem dX15_bank_47 : decode cX15_bank 47 = .ok (.iadd, 1) := by decide +kernel
set_option maxRecDepth 20000 in
theorem dX15_bank_48 : decode cX15_bank 48 = .ok (.ldc_w 281, 3) := by decide +kernel
set_option maxRecDepth 20000 in
theorem dX15_bank_51 : decode cX15_bank 51 = .ok (.if_icmp .le 5, 3) := by decide +kernel
set_option maxRecDepth 20000 in
theorem dX15_bank_54 : decode cX15_bank 54 = .ok (.iconst 0, 1) := by decide +kernel
set_option maxRecDepth 20000 in
theorem dX15_bank_55 : decode cX15_bank 55 = .ok (.ireturn, 1) := by decide +kernel
set_option maxRecDepth 20000 in
theorem dX15_bank_56 : decode cX15_bank 56 = .ok (.aload_n 0, 1) := by decide +kernel
set_option maxRecDepth 20000 in
theorem dX15_bank_57 : decode cX15_bank 57 = .ok (.getfield 9, 3) := by decide +kernel
set_option maxRecDepth 20000 in
theorem dX15_bank_60 : decode cX15_bank 60 = .ok (.iload_n 1, 1) := by decide +kernel
set_option maxRecDepth 20000 in
theorem dX15_bank_61 : decode cX15_bank 61 = .ok (.aaload, 1) := by decide +kernel
set_option maxRecDepth 20000 in
theorem dX15_bank_62 : decode cX15_bank 62 = .ok (.astore 5, 2) := by decide +kernel
set_option maxRecDepth 20000 in
theorem dX15_bank_64 : decode cX15_bank 64 = .ok (.aload 5, 2) := by decide +kernel
set_option maxRecDepth 20000 in
theorem dX15_bank_66 : decode cX15_bank 66 = .ok (.getfield 438, 3) := by decide +kernel
set_option maxRecDepth 20000 in
theorem dX15_bank_69 : decode cX15_bank 69 = .ok (.iload_n 2, 1) := by decide +kernel
set_option maxRecDepth 20000 in
theorem dX15_bank_70 : decode cX15_bank 70 = .ok (.iload_n 3, 1) := by decide +kernel
set_option maxRecDepth 20000 in
theorem dX15_bank_71 : decode cX15_bank 71 = .ok (.iastore, 1) := by decide +kernel
set_option maxRecDepth 20000 in
theorem dX15_bank_72 : decode cX15_bank 72 = .ok (.aload 5, 2) := by decide +kernel
set_option maxRecDepth 20000 in
theorem dX15_bank_74 : decode cX15_bank 74 = .ok (.getfield 172, 3) := by decide +kernel
set_option maxRecDepth 20000 in
theorem dX15_bank_77 : decode cX15_bank 77 = .ok (.iload_n 2, 1) := by decide +kernel
set_option maxRecDepth 20000 in
theorem dX15_bank_78 : decode cX15_bank 78 = .ok (.iload 4, 2) := by decide +kernel
set_option maxRecDepth 20000 in
theorem dX15_bank_80 : decode cX15_bank 80 = .ok (.iastore, 1) := by decide +kernel
set_option maxRecDepth 20000 in
theorem dX15_bank_81 : decode cX15_bank 81 = .ok (.iconst 0, 1) := by decide +kernel
set_option maxRecDepth 20000 in
theorem dX15_bank_82 : decode cX15_bank 82 = .ok (.istore 6, 2) := by decide +kernel
set_option maxRecDepth 20000 in
theorem dX15_bank_84 : decode cX15_bank 84 = .ok (.iload 6, 2) := by decide +kernel
set_option maxRecDepth 20000 in
theorem dX15_bank_86 : decode cX15_bank 86 = .ok (.sipush 400, 3) := by decide +kernel
set_option maxRecDepth 20000 in
theorem dX15_bank_89 : decode cX15_bank 89 = .ok (.if_icmp .ge 20, 3) := by decide +kernel
set_option maxRecDepth 20000 in
theorem dX15_bank_92 : decode cX15_bank 92 = .ok (.aload 5, 2) := by decide +kernel
set_option maxRecDepth 20000 in
theorem dX15_bank_94 : decode cX15_bank 94 = .ok (.getfield 175, 3) := by decide +kernel
set_option maxRecDepth 20000 in
theorem dX15_bank_97 : decode cX15_bank 97 = .ok (.iload_n 2, 1) := by decide +kernel
set_option maxRecDepth 20000 in
theorem dX15_bank_98 : decode cX15_bank 98 = .ok (.aaload, 1) := by decide +kernel
set_option maxRecDepth 20000 in
theorem dX15_bank_99 : decode cX15_bank 99 = .ok (.iload 6, 2) := by decide +kernel
set_option maxRecDepth 20000 in
theorem dX15_bank_101 : decode cX15_bank 101 = .ok (.iconst 0, 1) := by decide +kernel
set_option maxRecDepth 20000 in
theorem dX15_bank_102 : decode cX15_bank 102 = .ok (.iastore, 1) := by decide +kernel
set_option maxRecDepth 20000 in
theorem dX15_bank_103 : decode cX15_bank 103 = .ok (.iinc 6 1, 3) := by decide +kernel
set_option maxRecDepth 20000 in
theorem dX15_bank_106 : decode cX15_bank 106 = .ok (.goto (-22), 3) := by decide +kernel
set_option maxRecDepth 20000 in
theorem dX15_bank_109 : decode cX15_bank 109 = .ok (.iconst 1, 1) := by decide +kernel
set_option maxRecDepth 20000 in
theorem dX15_bank_110 : decode cX15_bank 110 = .ok (.ireturn, 1) := by decide +kernel
set_option maxRecDepth 20000 in
theorem dX15_isPlace_0 : decode cX15_isPlace 0 = .ok (.aload_n 0, 1) := by decide +kernel
set_option maxRecDepth 20000 in
theorem dX15_isPlace_1 : decode cX15_isPlace 1 = .ok (.iload_n 1, 1) := by decide +kernel
set_option maxRecDepth 20000 in
theorem dX15_isPlace_2 : decode cX15_isPlace 2 = .ok (.invokevirtual 435, 3) := by decide +kernel
set_option maxRecDepth 20000 in
theorem dX15_isPlace_5 : decode cX15_isPlace 5 = .ok (.ifCond .eq 31, 3) := by decide +kernel
set_option maxRecDepth 20000 in
theorem dX15_isPlace_8 : decode cX15_isPlace 8 = .ok (.iload_n 2, 1) := by decide +kernel
set_option maxRecDepth 20000 in
theorem dX15_isPlace_9 : decode cX15_isPlace 9 = .ok (.iconst 0, 1) := by decide +kernel
set_option maxRecDepth 20000 in
theorem dX15_isPlace_10 : decode cX15_isPlace 10 = .ok (.iconst 3, 1) := by decide +kernel
set_option maxRecDepth 20000 in
theorem dX15_isPlace_11 : decode cX15_isPlace 11 = .ok (.invokestatic 81, 3) := by decide +kernel
set_option maxRecDepth 20000 in
theorem dX15_isPlace_14 : decode cX15_isPlace 14 = .ok (.ifCond .eq 22, 3) := by decide +kernel
set_option maxRecDepth 20000 in
theorem dX15_isPlace_17 : decode cX15_isPlace 17 = .ok (.aload_n 0, 1) := by decide +kernel
set_option maxRecDepth 20000 in
theorem dX15_isPlace_18 : decode cX15_isPlace 18 = .ok (.getfield 9, 3) := by decide +kernel
set_option maxRecDepth 20000 in
theorem dX15_isPlace_21 : decode cX15_isPlace 21 = .ok (.iload_n 1, 1) := by decide +kernel
set_option maxRecDepth 20000 in
theorem dX15_isPlace_22 : decode cX15_isPlace 22 = .ok (.aaload, 1) := by decide +kernel
set_option maxRecDepth 20000 in
theorem dX15_isPlace_23 : decode cX15_isPlace 23 = .ok (.iload_n 2, 1) := by decide +kernel
set_option maxRecDepth 20000 in
theorem dX15_isPlace_24 : decode cX15_isPlace 24 = .ok (.iload_n 3, 1) := by decide +kernel
set_option maxRecDepth 20000 in
theorem dX15_isPlace_25 : decode cX15_isPlace 25 = .ok (.invokevirtual 441, 3) := by decide +kernel
set_option maxRecDepth 20000 in
theorem dX15_isPlace_28 : decode cX15_isPlace 28 = .ok (.iconst (-1), 1) := by decide +kernel
set_option maxRecDepth 20000 in
theorem dX15_isPlace_29 : decode cX15_isPlace 29 = .ok (.if_icmp .eq 7, 3) := by decide +kernel
set_option maxRecDepth 20000 in
theorem dX15_isPlace_32 : decode cX15_isPlace 32 = .ok (.iconst 1, 1) := by decide +kernel
set_option maxRecDepth 20000 in
theorem dX15_isPlace_33 : decode cX15_isPlace 33 = .ok (.goto 4, 3) := by decide +kernel
set_option maxRecDepth 20000 in
theorem dX15_isPlace_36 : decode cX15_isPlace 36 = .ok (.iconst 0, 1) := by decide +kernel
set_option maxRecDepth 20000 in
theorem dX15_isPlace_37 : decode cX15_isPlace 37 = .ok (.ireturn, 1) := by decide +kernel
set_option maxRecDepth 20000 in
theorem dX15_put_0 : decode cX15_put 0 = .ok (.aload_n 0, 1) := by decide +kernel
set_option maxRecDepth 20000 in
theorem dX15_put_1 : decode cX15_put 1 = .ok (.iconst 0, 1) := by decide +kernel
set_option maxRecDepth 20000 in
theorem dX15_put_2 : decode cX15_put 2 = .ok (.putfield 73, 3) := by decide +kernel
set_option maxRecDepth 20000 in
theorem dX15_put_5 : decode cX15_put 5 = .ok (.aload_n 0, 1) := by decide +kernel
set_option maxRecDepth 20000 in
theorem dX15_put_6 : decode cX15_put 6 = .ok (.iload_n 1, 1) := by decide +kernel
set_option maxRecDepth 20000 in
theorem dX15_put_7 : decode cX15_put 7 = .ok (.iload_n 2, 1) := by decide +kernel
set_option maxRecDepth 20000 in
theorem dX15_put_8 : decode cX15_put 8 = .ok (.iload_n 3, 1) := by decide +kernel
set_option maxRecDepth 20000 in
theorem dX15_put_9 : decode cX15_put 9 = .ok (.invokevirtual 444, 3) := by decide +kernel
set_option maxRecDepth 20000 in
theorem dX15_put_12 : decode cX15_put 12 = .ok (.ifCond .ne 5, 3) := by decide +kernel
set_option maxRecDepth 20000 in
theorem dX15_put_15 : decode cX15_put 15 = .ok (.iconst 0, 1) := by decide +kernel
set_option maxRecDepth 20000 in
theorem dX15_put_16 : decode cX15_put 16 = .ok (.ireturn, 1) := by decide +kernel
set_option maxRecDepth 20000 in
theorem dX15_put_17 : decode cX15_put 17 = .ok (.aload_n 0, 1) := by decide +kernel
set_option maxRecDepth 20000 in
theorem dX15_put_18 : decode cX15_put 18 = .ok (.getfield 9, 3) := by decide +kernel
set_option maxRecDepth 20000 in
theorem dX15_put_21 : decode cX15_put 21 = .ok (.iload_n 1, 1) := by decide +kernel
set_option maxRecDepth 20000 in
theorem dX15_put_22 : decode cX15_put 22 = .ok (.aaload, 1) := by decide +kernel
set_option maxRecDepth 20000 in
theorem dX15_put_23 : decode cX15_put 23 = .ok (.iload_n 2, 1) := by decide +kernel
set_option maxRecDepth 20000 in
theorem dX15_put_24 : decode cX15_put 24 = .ok (.iload_n 3, 1) := by decide +kernel
set_option maxRecDepth 20000 in
theorem dX15_put_25 : decode cX15_put 25 = .ok (.iload_n 2, 1) := by decide +kernel
set_option maxRecDepth 20000 in
theorem dX15_put_26 : decode cX15_put 26 = .ok (.iconst 2, 1) := by decide +kernel
set_option maxRecDepth 20000 in
theorem dX15_put_27 : decode cX15_put 27 = .ok (.if_icmp .ge 10, 3) := by decide +kernel
set_option maxRecDepth 20000 in
theorem dX15_put_30 : decode cX15_put 30 = .ok (.iload 4, 2) := by decide +kernel
set_option maxRecDepth 20000 in
theorem dX15_put_32 : decode cX15_put 32 = .ok (.iconst 1, 1) := by decide +kernel
set_option maxRecDepth 20000 in
theorem dX15_put_33 : decode cX15_put 33 = .ok (.iand, 1) := by decide +kernel
set_option maxRecDepth 20000 in
theorem dX15_put_34 : decode cX15_put 34 = .ok (.goto 8, 3) := by decide +kernel
set_option maxRecDepth 20000 in
theorem dX15_put_37 : decode cX15_put 37 = .ok (.iload 4, 2) := by decide +kernel
set_option maxRecDepth 20000 in
theorem dX15_put_39 : decode cX15_put 39 = .ok (.ldc 76, 2) := by decide +kernel
set_option maxRecDepth 20000 in
theorem dX15_put_41 : decode cX15_put 41 = .ok (.iand, 1) := by decide +kernel
set_option maxRecDepth 20000 in
theorem dX15_put_42 : decode cX15_put 42 = .ok (.invokevirtual 164, 3) := by decide +kernel
set_option maxRecDepth 20000 in
theorem dX15_put_45 : decode cX15_put 45 = .ok (.iconst 1, 1) := by decide +kernel
set_option maxRecDepth 20000 in
theorem dX15_put_46 : decode cX15_put 46 = .ok (.ireturn, 1) := by decide +kernel
set_option maxRecDepth 20000 in
theorem dX15_get_0 : decode cX15_get 0 = .ok (.aload_n 0, 1) := by decide +kernel
set_option maxRecDepth 20000 in
theorem dX15_get_1 : decode cX15_get 1 = .ok (.iconst 0, 1) := by decide +kernel
set_option maxRecDepth 20000 in
theorem dX15_get_2 : decode cX15_get 2 = .ok (.putfield 73, 3) := by decide +kernel
set_option maxRecDepth 20000 in
theorem dX15_get_5 : decode cX15_get 5 = .ok (.aload_n 0, 1) := by decide +kernel
set_option maxRecDepth 20000 in
theorem dX15_get_6 : decode cX15_get 6 = .ok (.iload_n 1, 1) := by decide +kernel
set_option maxRecDepth 20000 in
theorem dX15_get_7 : decode cX15_get 7 = .ok (.iload_n 2, 1) := by decide +kernel
set_option maxRecDepth 20000 in
theorem dX15_get_8 : decode cX15_get 8 = .ok (.iload_n 3, 1) := by decide +kernel
set_option maxRecDepth 20000 in
theorem dX15_get_9 : decode cX15_get 9 = .ok (.invokevirtual 444, 3) := by decide +kernel
set_option maxRecDepth 20000 in
theorem dX15_get_12 : decode cX15_get 12 = .ok (.ifCond .eq 17, 3) := by decide +kernel
set_option maxRecDepth 20000 in
theorem dX15_get_15 : decode cX15_get 15 = .ok (.aload_n 0, 1) := by decide +kernel
set_option maxRecDepth 20000 in
theorem dX15_get_16 : decode cX15_get 16 = .ok (.getfield 9, 3) := by decide +kernel
set_option maxRecDepth 20000 in
theorem dX15_get_19 : decode cX15_get 19 = .ok (.iload_n 1, 1) := by decide +kernel
set_option maxRecDepth 20000 in
theorem dX15_get_20 : decode cX15_get 20 = .ok (.aaload, 1) := by decide +kernel
set_option maxRecDepth 20000 in
theorem dX15_get_21 : decode cX15_get 21 = .ok (.iload_n 2, 1) := by decide +kernel
set_option maxRecDepth 20000 in
theorem dX15_get_22 : decode cX15_get 22 = .ok (.iload_n 3, 1) := by decide +kernel
set_option maxRecDepth 20000 in
theorem dX15_get_23 : decode cX15_get 23 = .ok (.invokevirtual 137, 3) := by decide +kernel
set_option maxRecDepth 20000 in
theorem dX15_get_26 : decode cX15_get 26 = .ok (.goto 4, 3) := by decide +kernel
set_option maxRecDepth 20000 in
theorem dX15_get_29 : decode cX15_get 29 = .ok (.iconst (-1), 1) := by decide +kernel
set_option maxRecDepth 20000 in
theorem dX15_get_30 : decode cX15_get 30 = .ok (.ireturn, 1) := by decide +kernel
set_option maxRecDepth 20000 in
theorem dX15_limit_0 : decode cX15_limit 0 = .ok (.aload_n 0, 1) := by decide +kernel
set_option maxRecDepth 20000 in
theorem dX15_limit_1 : decode cX15_limit 1 = .ok (.iconst 0, 1) := by decide +kernel
set_option maxRecDepth 20000 in
theorem dX15_limit_2 : decode cX15_limit 2 = .ok (.putfield 73, 3) := by decide +kernel
set_option maxRecDepth 20000 in
theorem dX15_limit_5 : decode cX15_limit 5 = .ok (.aload_n 0, 1) := by decide +kernel
set_option maxRecDepth 20000 in
theorem dX15_limit_6 : decode cX15_limit 6 = .ok (.iload_n 1, 1) := by decide +kernel
set_option maxRecDepth 20000 in
theorem dX15_limit_7 : decode cX15_limit 7 = .ok (.invokevirtual 435, 3) := by decide +kernel
set_option maxRecDepth 20000 in
theorem dX15_limit_10 : decode cX15_limit 10 = .ok (.ifCond .eq 56, 3) := by decide +kernel
set_option maxRecDepth 20000 in
theorem dX15_limit_13 : decode cX15_limit 13 = .ok (.iload_n 2, 1) := by decide +kernel
set_option maxRecDepth 20000 in
theorem dX15_limit_14 : decode cX15_limit 14 = .ok (.iconst 0, 1) := by decide +kernel
set_option maxRecDepth 20000 in
theorem dX15_limit_15 : decode cX15_limit 15 = .ok (.ldc 76, 2) := by decide +kernel
set_option maxRecDepth 20000 in
theorem dX15_limit_17 : decode cX15_limit 17 = .ok (.invokestatic 81, 3) := by decide +kernel
set_option maxRecDepth 20000 in
theorem dX15_limit_20 : decode cX15_limit 20 = .ok (.ifCond .eq 46, 3) := by decide +kernel
set_option maxRecDepth 20000 in
theorem dX15_limit_23 : decode cX15_limit 23 = .ok (.iload_n 3, 1) := by decide +kernel
set_option maxRecDepth 20000 in
theorem dX15_limit_24 : decode cX15_limit 24 = .ok (.iconst 1, 1) := by decide +kernel
set_option maxRecDepth 20000 in
theorem dX15_limit_25 : decode cX15_limit 25 = .ok (.ldc_w 281, 3) := by decide +kernel
set_option maxRecDepth 20000 in
theorem dX15_limit_28 : decode cX15_limit 28 = .ok (.invokestatic 81, 3) := by decide +kernel
set_option maxRecDepth 20000 in
theorem dX15_limit_31 : decode cX15_limit 31 = .ok (.ifCond .eq 35, 3) := by decide +kernel
set_option maxRecDepth 20000 in
theorem dX15_limit_34 : decode cX15_limit 34 = .ok (.iload_n 2, 1) := by decide +kernel
set_option maxRecDepth 20000 in
theorem dX15_limit_35 : decode cX15_limit 35 = .ok (.iload_n 3, 1) := by decide +kernel
set_option maxRecDepth 20000 in
theorem dX15_limit_36 : decode cX15_limit 36 = .ok (.iadd, 1) := by decide +kernel
set_option maxRecDepth 20000 in
theorem dX15_limit_37 : decode cX15_limit 37 = .ok (.ldc_w 281, 3) := by decide +kernel
set_option maxRecDepth 20000 in
theorem dX15_limit_40 : decode cX15_limit 40 = .ok (.if_icmp .gt 26, 3) := by decide +kernel
set_option maxRecDepth 20000 in
theorem dX15_limit_43 : decode cX15_limit 43 = .ok (.iload 4, 2) := by decide +kernel
set_option maxRecDepth 20000 in
theorem dX15_limit_45 : decode cX15_limit 45 = .ok (.iconst 0, 1) := by decide +kernel
set_option maxRecDepth 20000 in
theorem dX15_limit_46 : decode cX15_limit 46 = .ok (.ldc 76, 2) := by decide +kernel
set_option maxRecDepth 20000 in
theorem dX15_limit_48 : decode cX15_limit 48 = .ok (.invokestatic 81, 3) := by decide +kernel
set_option maxRecDepth 20000 in
theorem dX15_limit_51 : decode cX15_limit 51 = .ok (.ifCond .eq 15, 3) := by decide +kernel
set_option maxRecDepth 20000 in
theorem dX15_limit_54 : decode cX15_limit 54 = .ok (.iload 5, 2) := by decide +kernel
set_option maxRecDepth 20000 in
theorem dX15_limit_56 : decode cX15_limit 56 = .ok (.iload 4, 2) := by decide +kernel
set_option maxRecDepth 20000 in
theorem dX15_limit_58 : decode cX15_limit 58 = .ok (.ldc 76, 2) := by decide +kernel
set_option maxRecDepth 20000 in
theorem dX15_limit_60 : decode cX15_limit 60 = .ok (.invokestatic 81, 3) := by decide +kernel
set_option maxRecDepth 20000 in
theorem dX15_limit_63 : decode cX15_limit 63 = .ok (.ifCond .ne 5, 3) := by decide +kernel
set_option maxRecDepth 20000 in
theorem dX15_limit_66 : decode cX15_limit 66 = .ok (.iconst 0, 1) := by decide +kernel
set_option maxRecDepth 20000 in
theorem dX15_limit_67 : decode cX15_limit 67 = .ok (.ireturn, 1) := by decide +kernel
set_option maxRecDepth 20000 in
theorem dX15_limit_68 : decode cX15_limit 68 = .ok (.aload_n 0, 1) := by decide +kernel
set_option maxRecDepth 20000 in
theorem dX15_limit_69 : decode cX15_limit 69 = .ok (.getfield 9, 3) := by decide +kernel
set_option maxRecDepth 20000 in
theorem dX15_limit_72 : decode cX15_limit 72 = .ok (.iload_n 1, 1) := by decide +kernel
set_option maxRecDepth 20000 in
theorem dX15_limit_73 : decode cX15_limit 73 = .ok (.aaload, 1) := by decide +kernel
set_option maxRecDepth 20000 in
theorem dX15_limit_74 : decode cX15_limit 74 = .ok (.astore 6, 2) := by decide +kernel
set_option maxRecDepth 20000 in
theorem dX15_limit_76 : decode cX15_limit 76 = .ok (.aload 6, 2) := by decide +kernel
set_option maxRecDepth 20000 in
theorem dX15_limit_78 : decode cX15_limit 78 = .ok (.getfield 447, 3) := by decide +kernel
set_option maxRecDepth 20000 in
theorem dX15_limit_81 : decode cX15_limit 81 = .ok (.bipush 8, 2) := by decide +kernel
set_option maxRecDepth 20000 in
theorem dX15_limit_83 : decode cX15_limit 83 = .ok (.if_icmp .ne 5, 3) := by decide +kernel
set_option maxRecDepth 20000 in
theorem dX15_limit_86 : decode cX15_limit 86 = .ok (.iconst 0, 1) := by decide +kernel
set_option maxRecDepth 20000 in
theorem dX15_limit_87 : decode cX15_limit 87 = .ok (.ireturn, 1) := by decide +kernel
set_option maxRecDepth 20000 in
theorem dX15_limit_88 : decode cX15_limit 88 = .ok (.aload 6, 2) := by decide +kernel
set_option maxRecDepth 20000 in
theorem dX15_limit_90 : decode cX15_limit 90 = .ok (.getfield 450, 3) := by decide +kernel
set_option maxRecDepth 20000 in
theorem dX15_limit_93 : decode cX15_limit 93 = .ok (.aload 6, 2) := by decide +kernel
set_option maxRecDepth 20000 in
theorem dX15_limit_95 : decode cX15_limit 95 = .ok (.getfield 447, 3) := by decide +kernel
set_option maxRecDepth 20000 in
theorem dX15_limit_98 : decode cX15_limit 98 = .ok (.iload_n 2, 1) := by decide +kernel
set_option maxRecDepth 20000 in
theorem dX15_limit_99 : decode cX15_limit 99 = .ok (.iastore, 1) := by decide +kernel
set_option maxRecDepth 20000 in
theorem dX15_limit_100 : decode cX15_limit 100 = .ok (.aload 6, 2) := by decide +kernel
set_option maxRecDepth 20000 in
theorem dX15_limit_102 : decode cX15_limit 102 = .ok (.getfield 453, 3) := by decide +kernel
set_option maxRecDepth 20000 in
theorem dX15_limit_105 : decode cX15_limit 105 = .ok (.aload 6, 2) := by decide +kernel
set_option maxRecDepth 20000 in
theorem dX15_limit_107 : decode cX15_limit 107 = .ok (.getfield 447, 3) := by decide +kernel
set_option maxRecDepth 20000 in
theorem dX15_limit_110 : decode cX15_limit 110 = .ok (.iload_n 3, 1) := by decide +kernel
set_option maxRecDepth 20000 in
theorem dX15_limit_111 : decode cX15_limit 111 = .ok (.iastore, 1) := by decide +kernel
set_option maxRecDepth 20000 in
theorem dX15_limit_112 : decode cX15_limit 112 = .ok (.aload 6, 2) := by decide +kernel
set_option maxRecDepth 20000 in
theorem dX15_limit_114 : decode cX15_limit 114 = .ok (.getfield 456, 3) := by decide +kernel
set_option maxRecDepth 20000 in
theorem dX15_limit_117 : decode cX15_limit 117 = .ok (.aload 6, 2) := by decide +kernel
set_option maxRecDepth 20000 in
theorem dX15_limit_119 : decode cX15_limit 119 = .ok (.getfield 447, 3) := by decide +kernel
set_option maxRecDepth 20000 in
theorem dX15_limit_122 : decode cX15_limit 122 = .ok (.iload 4, 2) := by decide +kernel
set_option maxRecDepth 20000 in
theorem dX15_limit_124 : decode cX15_limit 124 = .ok (.iastore, 1) := by decide +kernel
set_option maxRecDepth 20000 in
theorem dX15_limit_125 : decode cX15_limit 125 = .ok (.aload 6, 2) := by decide +kernel
set_option maxRecDepth 20000 in
theorem dX15_limit_127 : decode cX15_limit 127 = .ok (.getfield 459, 3) := by decide +kernel
set_option maxRecDepth 20000 in
theorem dX15_limit_130 : decode cX15_limit 130 = .ok (.aload 6, 2) := by decide +kernel
set_option maxRecDepth 20000 in
theorem dX15_limit_132 : decode cX15_limit 132 = .ok (.getfield 447, 3) := by decide +kernel
set_option maxRecDepth 20000 in
theorem dX15_limit_135 : decode cX15_limit 135 = .ok (.iload 5, 2) := by decide +kernel
set_option maxRecDepth 20000 in
theorem dX15_limit_137 : decode cX15_limit 137 = .ok (.iastore, 1) := by decide +kernel
set_option maxRecDepth 20000 in
theorem dX15_limit_138 : decode cX15_limit 138 = .ok (.aload 6, 2) := by decide +kernel
set_option maxRecDepth 20000 in
theorem dX15_limit_140 : decode cX15_limit 140 = .ok (.dup, 1) := by decide +kernel
set_option maxRecDepth 20000 in
theorem dX15_limit_141 : decode cX15_limit 141 = .ok (.getfield 447, 3) := by decide +kernel
set_option maxRecDepth 20000 in
theorem dX15_limit_144 : decode cX15_limit 144 = .ok (.iconst 1, 1) := by decide +kernel
set_option maxRecDepth 20000 in
theorem dX15_limit_145 : decode cX15_limit 145 = .ok (.iadd, 1) := by decide +kernel
set_option maxRecDepth 20000 in
theorem dX15_limit_146 : decode cX15_limit 146 = .ok (.putfield 447, 3) := by decide +kernel
set_option maxRecDepth 20000 in
theorem dX15_limit_149 : decode cX15_limit 149 = .ok (.iconst 1, 1) := by decide +kernel
set_option maxRecDepth 20000 in
theorem dX15_limit_150 : decode cX15_limit 150 = .ok (.ireturn, 1) := by decide +kernel
set_option maxRecDepth 20000 in
theorem dX15_file_0 : decode cX15_file 0 = .ok (.aload_n 0, 1) := by decide +kernel
set_option maxRecDepth 20000 in
theorem dX15_file_1 : decode cX15_file 1 = .ok (.iconst 0, 1) := by decide +kernel
set_option maxRecDepth 20000 in
theorem dX15_file_2 : decode cX15_file 2 = .ok (.putfield 73, 3) := by decide +kernel
set_option maxRecDepth 20000 in
theorem dX15_file_5 : decode cX15_file 5 = .ok (.aload_n 0, 1) := by decide +kernel
set_option maxRecDepth 20000 in
theorem dX15_file_6 : decode cX15_file 6 = .ok (.iload_n 1, 1) := by decide +kernel
set_option maxRecDepth 20000 in
theorem dX15_file_7 : decode cX15_file 7 = .ok (.invokevirtual 435, 3) := by decide +kernel
set_option maxRecDepth 20000 in
theorem dX15_file_10 : decode cX15_file 10 = .ok (.ifCond .eq 23, 3) := by decide +kernel
set_option maxRecDepth 20000 in
theorem dX15_file_13 : decode cX15_file 13 = .ok (.iload_n 2, 1) := by decide +kernel
set_option maxRecDepth 20000 in
theorem dX15_file_14 : decode cX15_file 14 = .ok (.iconst 1, 1) := by decide +kernel
set_option maxRecDepth 20000 in
theorem dX15_file_15 : decode cX15_file 15 = .ok (.ldc 76, 2) := by decide +kernel
set_option maxRecDepth 20000 in
theorem dX15_file_17 : decode cX15_file 17 = .ok (.invokestatic 81, 3) := by decide +kernel
set_option maxRecDepth 20000 in
theorem dX15_file_20 : decode cX15_file 20 = .ok (.ifCond .eq 13, 3) := by decide +kernel
set_option maxRecDepth 20000 in
theorem dX15_file_23 : decode cX15_file 23 = .ok (.iload_n 3, 1) := by decide +kernel
set_option maxRecDepth 20000 in
theorem dX15_file_24 : decode cX15_file 24 = .ok (.iconst 1, 1) := by decide +kernel
set_option maxRecDepth 20000 in
theorem dX15_file_25 : decode cX15_file 25 = .ok (.bipush 120, 2) := by decide +kernel
set_option maxRecDepth 20000 in
theorem dX15_file_27 : decode cX15_file 27 = .ok (.invokestatic 81, 3) := by decide +kernel
set_option maxRecDepth 20000 in
theorem dX15_file_30 : decode cX15_file 30 = .ok (.ifCond .ne 5, 3) := by decide +kernel
set_option maxRecDepth 20000 in
theorem dX15_file_33 : decode cX15_file 33 = .ok (.iconst 0, 1) := by decide +kernel
set_option maxRecDepth 20000 in
theorem dX15_file_34 : decode cX15_file 34 = .ok (.ireturn, 1) := by decide +kernel
set_option maxRecDepth 20000 in
theorem dX15_file_35 : decode cX15_file 35 = .ok (.aload_n 0, 1) := by decide +kernel
set_option maxRecDepth 20000 in
theorem dX15_file_36 : decode cX15_file 36 = .ok (.getfield 9, 3) := by decide +kernel
set_option maxRecDepth 20000 in
theorem dX15_file_39 : decode cX15_file 39 = .ok (.iload_n 1, 1) := by decide +kernel
set_option maxRecDepth 20000 in
theorem dX15_file_40 : decode cX15_file 40 = .ok (.aaload, 1) := by decide +kernel
set_option maxRecDepth 20000 in
theorem dX15_file_41 : decode cX15_file 41 = .ok (.astore 4, 2) := by decide +kernel
set_option maxRecDepth 20000 in
theorem dX15_file_43 : decode cX15_file 43 = .ok (.aload 4, 2) := by decide +kernel
set_option maxRecDepth 20000 in
theorem dX15_file_45 : decode cX15_file 45 = .ok (.iload_n 2, 1) := by decide +kernel
set_option maxRecDepth 20000 in
theorem dX15_file_46 : decode cX15_file 46 = .ok (.invokevirtual 141, 3) := by decide +kernel
set_option maxRecDepth 20000 in
theorem dX15_file_49 : decode cX15_file 49 = .ok (.istore 5, 2) := by decide +kernel
set_option maxRecDepth 20000 in
theorem dX15_file_51 : decode cX15_file 51 = .ok (.iload 5, 2) := by decide +kernel
set_option maxRecDepth 20000 in
theorem dX15_file_53 : decode cX15_file 53 = .ok (.iconst (-1), 1) := by decide +kernel
set_option maxRecDepth 20000 in
theorem dX15_file_54 : decode cX15_file 54 = .ok (.if_icmp .ne 32, 3) := by decide +kernel
set_option maxRecDepth 20000 in
theorem dX15_file_57 : decode cX15_file 57 = .ok (.aload 4, 2) := by decide +kernel
set_option maxRecDepth 20000 in
theorem dX15_file_59 : decode cX15_file 59 = .ok (.getfield 462, 3) := by decide +kernel
set_option maxRecDepth 20000 in
theorem dX15_file_62 : decode cX15_file 62 = .ok (.iconst 4, 1) := by decide +kernel
set_option maxRecDepth 20000 in
theorem dX15_file_63 : decode cX15_file 63 = .ok (.if_icmp .ne 5, 3) := by decide +kernel
set_option maxRecDepth 20000 in
theorem dX15_file_66 : decode cX15_file 66 = .ok (.iconst 0, 1) := by decide +kernel
set_option maxRecDepth 20000 in
theorem dX15_file_67 : decode cX15_file 67 = .ok (.ireturn, 1) := by decide +kernel
set_option maxRecDepth 20000 in
theorem dX15_file_68 : decode cX15_file 68 = .ok (.aload 4, 2) := by decide +kernel
set_option maxRecDepth 20000 in
theorem dX15_file_70 : decode cX15_file 70 = .ok (.getfield 462, 3) := by decide +kernel
set_option maxRecDepth 20000 in
theorem dX15_file_73 : decode cX15_file 73 = .ok (.istore 5, 2) := by decide +kernel
set_option maxRecDepth 20000 in
theorem dX15_file_75 : decode cX15_file 75 = .ok (.aload 4, 2) := by decide +kernel
set_option maxRecDepth 20000 in
theorem dX15_file_77 : decode cX15_file 77 = .ok (.dup, 1) := by decide +kernel
set_option maxRecDepth 20000 in
theorem dX15_file_78 : decode cX15_file 78 = .ok (.getfield 462, 3) := by decide +kernel
set_option maxRecDepth 20000 in
theorem dX15_file_81 : decode cX15_file 81 = .ok (.iconst 1, 1) := by decide +kernel
set_option maxRecDepth 20000 in
theorem dX15_file_82 : decode cX15_file 82 = .ok (.iadd, 1) := by decide +kernel
set_option maxRecDepth 20000 in
theorem dX15_file_83 : decode cX15_file 83 = .ok (.putfield 462, 3) := by decide +kernel
set_option maxRecDepth 20000 in
theorem dX15_file_86 : decode cX15_file 86 = .ok (.aload 4, 2) := by decide +kernel
set_option maxRecDepth 20000 in
theorem dX15_file_88 : decode cX15_file 88 = .ok (.getfield 465, 3) := by decide +kernel
set_option maxRecDepth 20000 in
theorem dX15_file_91 : decode cX15_file 91 = .ok (.iload 5, 2) := by decide +kernel
set_option maxRecDepth 20000 in
theorem dX15_file_93 : decode cX15_file 93 = .ok (.iload_n 2, 1) := by decide +kernel
set_option maxRecDepth 20000 in
theorem dX15_file_94 : decode cX15_file 94 = .ok (.iastore, 1) := by decide +kernel
set_option maxRecDepth 20000 in
theorem dX15_file_95 : decode cX15_file 95 = .ok (.aload 4, 2) := by decide +kernel
set_option maxRecDepth 20000 in
theorem dX15_file_97 : decode cX15_file 97 = .ok (.getfield 144, 3) := by decide +kernel
set_option maxRecDepth 20000 in
theorem dX15_file_100 : decode cX15_file 100 = .ok (.iload 5, 2) := by decide +kernel
set_option maxRecDepth 20000 in
theorem dX15_file_102 : decode cX15_file 102 = .ok (.iload_n 3, 1) := by decide +kernel
set_option maxRecDepth 20000 in
theorem dX15_file_103 : decode cX15_file 103 = .ok (.iastore, 1) := by decide +kernel
set_option maxRecDepth 20000 in
theorem dX15_file_104 : decode cX15_file 104 = .ok (.iconst 0, 1) := by decide +kernel
set_option maxRecDepth 20000 in
theorem dX15_file_105 : decode cX15_file 105 = .ok (.istore 6, 2) := by decide +kernel
set_option maxRecDepth 20000 in
theorem dX15_file_107 : decode cX15_file 107 = .ok (.iload 6, 2) := by decide +kernel
set_option maxRecDepth 20000 in
theorem dX15_file_109 : decode cX15_file 109 = .ok (.bipush 120, 2) := by decide +kernel
set_option maxRecDepth 20000 in
theorem dX15_file_111 : decode cX15_file 111 = .ok (.if_icmp .ge 21, 3) := by decide +kernel
set_option maxRecDepth 20000 in
theorem dX15_file_114 : decode cX15_file 114 = .ok (.aload 4, 2) := by decide +kernel
set_option maxRecDepth 20000 in
theorem dX15_file_116 : decode cX15_file 116 = .ok (.getfield 218, 3) := by decide +kernel
set_option maxRecDepth 20000 in
theorem dX15_file_119 : decode cX15_file 119 = .ok (.iload 5, 2) := by decide +kernel
set_option maxRecDepth 20000 in
theorem dX15_file_121 : decode cX15_file 121 = .ok (.aaload, 1) := by decide +kernel
set_option maxRecDepth 20000 in
theorem dX15_file_122 : decode cX15_file 122 = .ok (.iload 6, 2) := by decide +kernel
set_option maxRecDepth 20000 in
theorem dX15_file_124 : decode cX15_file 124 = .ok (.iconst 0, 1) := by decide +kernel
set_option maxRecDepth 20000 in
theorem dX15_file_125 : decode cX15_file 125 = .ok (.iastore, 1) := by decide +kernel
set_option maxRecDepth 20000 in
theorem dX15_file_126 : decode cX15_file 126 = .ok (.iinc 6 1, 3) := by decide +kernel
set_option maxRecDepth 20000 in
theorem dX15_file_129 : decode cX15_file 129 = .ok (.goto (-22), 3) := by decide +kernel
set_option maxRecDepth 20000 in
theorem dX15_file_132 : decode cX15_file 132 = .ok (.iconst 1, 1) := by decide +kernel
set_option maxRecDepth 20000 in
theorem dX15_file_133 : decode cX15_file 133 = .ok (.ireturn, 1) := by decide +kernel
set_option maxRecDepth 20000 in
theorem dX15_record_0 : decode cX15_record 0 = .ok (.aload_n 0, 1) := by decide +kernel
set_option maxRecDepth 20000 in
theorem dX15_record_1 : decode cX15_record 1 = .ok (.iconst 0, 1) := by decide +kernel
set_option maxRecDepth 20000 in
theorem dX15_record_2 : decode cX15_record 2 = .ok (.putfield 73, 3) := by decide +kernel
set_option maxRecDepth 20000 in
theorem dX15_record_5 : decode cX15_record 5 = .ok (.aload_n 0, 1) := by decide +kernel
set_option maxRecDepth 20000 in
theorem dX15_record_6 : decode cX15_record 6 = .ok (.iload_n 1, 1) := by decide +kernel
set_option maxRecDepth 20000 in
theorem dX15_record_7 : decode cX15_record 7 = .ok (.invokevirtual 435, 3) := by decide +kernel
set_option maxRecDepth 20000 in
theorem dX15_record_10 : decode cX15_record 10 = .ok (.ifCond .eq 16, 3) := by decide +kernel
set_option maxRecDepth 20000 in
theorem dX15_record_13 : decode cX15_record 13 = .ok (.aload_n 0, 1) := by decide +kernel
set_option maxRecDepth 20000 in
theorem dX15_record_14 : decode cX15_record 14 = .ok (.getfield 9, 3) := by decide +kernel
set_option maxRecDepth 20000 in
theorem dX15_record_17 : decode cX15_record 17 = .ok (.iload_n 1, 1) := by decide +kernel
set_option maxRecDepth 20000 in
theorem dX15_record_18 : decode cX15_record 18 = .ok (.aaload, 1) := by decide +kernel
set_option maxRecDepth 20000 in
theorem dX15_record_19 : decode cX15_record 19 = .ok (.iload_n 2, 1) := by decide +kernel
set_option maxRecDepth 20000 in
theorem dX15_record_20 : decode cX15_record 20 = .ok (.invokevirtual 141, 3) := by decide +kernel
set_option maxRecDepth 20000 in
theorem dX15_record_23 : decode cX15_record 23 = .ok (.goto 4, 3) := by decide +kernel
set_option maxRecDepth 20000 in
theorem dX15_record_26 : decode cX15_record 26 = .ok (.iconst (-1), 1) := by decide +kernel
set_option maxRecDepth 20000 in
theorem dX15_record_27 : decode cX15_record 27 = .ok (.istore 4, 2) := by decide +kernel
set_option maxRecDepth 20000 in
theorem dX15_record_29 : decode cX15_record 29 = .ok (.iload 4, 2) := by decide +kernel
set_option maxRecDepth 20000 in
theorem dX15_record_31 : decode cX15_record 31 = .ok (.iconst (-1), 1) := by decide +kernel
set_option maxRecDepth 20000 in
theorem dX15_record_32 : decode cX15_record 32 = .ok (.if_icmp .eq 42, 3) := by decide +kernel
set_option maxRecDepth 20000 in
theorem dX15_record_35 : decode cX15_record 35 = .ok (.iload_n 3, 1) := by decide +kernel
set_option maxRecDepth 20000 in
theorem dX15_record_36 : decode cX15_record 36 = .ok (.iconst 0, 1) := by decide +kernel
set_option maxRecDepth 20000 in
theorem dX15_record_37 : decode cX15_record 37 = .ok (.aload_n 0, 1) := by decide +kernel
set_option maxRecDepth 20000 in
theorem dX15_record_38 : decode cX15_record 38 = .ok (.getfield 9, 3) := by decide +kernel
set_option maxRecDepth 20000 in
theorem dX15_record_41 : decode cX15_record 41 = .ok (.iload_n 1, 1) := by decide +kernel
set_option maxRecDepth 20000 in
theorem dX15_record_42 : decode cX15_record 42 = .ok (.aaload, 1) := by decide +kernel
set_option maxRecDepth 20000 in
theorem dX15_record_43 : decode cX15_record 43 = .ok (.getfield 144, 3) := by decide +kernel
set_option maxRecDepth 20000 in
theorem dX15_record_46 : decode cX15_record 46 = .ok (.iload 4, 2) := by decide +kernel
set_option maxRecDepth 20000 in
theorem dX15_record_48 : decode cX15_record 48 = .ok (.iaload, 1) := by decide +kernel
set_option maxRecDepth 20000 in
theorem dX15_record_49 : decode cX15_record 49 = .ok (.iconst 1, 1) := by decide +kernel
set_option maxRecDepth 20000 in
theorem dX15_record_50 : decode cX15_record 50 = .ok (.isub, 1) := by decide +kernel
set_option maxRecDepth 20000 in
theorem dX15_record_51 : decode cX15_record 51 = .ok (.invokestatic 81, 3) := by decide +kernel
set_option maxRecDepth 20000 in
theorem dX15_record_54 : decode cX15_record 54 = .ok (.ifCond .eq 20, 3) := by decide +kernel
set_option maxRecDepth 20000 in
theorem dX15_record_57 : decode cX15_record 57 = .ok (.aload_n 0, 1) := by decide +kernel
set_option maxRecDepth 20000 in
theorem dX15_record_58 : decode cX15_record 58 = .ok (.getfield 9, 3) := by decide +kernel
set_option maxRecDepth 20000 in
theorem dX15_record_61 : decode cX15_record 61 = .ok (.iload_n 1, 1) := by decide +kernel
set_option maxRecDepth 20000 in
theorem dX15_record_62 : decode cX15_record 62 = .ok (.aaload, 1) := by decide +kernel
set_option maxRecDepth 20000 in
theorem dX15_record_63 : decode cX15_record 63 = .ok (.getfield 218, 3) := by decide +kernel
set_option maxRecDepth 20000 in
theorem dX15_record_66 : decode cX15_record 66 = .ok (.iload 4, 2) := by decide +kernel
set_option maxRecDepth 20000 in
theorem dX15_record_68 : decode cX15_record 68 = .ok (.aaload, 1) := by decide +kernel
set_option maxRecDepth 20000 in
theorem dX15_record_69 : decode cX15_record 69 = .ok (.iload_n 3, 1) := by decide +kernel
set_option maxRecDepth 20000 in
theorem dX15_record_70 : decode cX15_record 70 = .ok (.iaload, 1) := by decide +kernel
set_option maxRecDepth 20000 in
theorem dX15_record_71 : decode cX15_record 71 = .ok (.goto 4, 3) := by decide +kernel
set_option maxRecDepth 20000 in
theorem dX15_record_74 : decode cX15_record 74 = .ok (.iconst (-1), 1) := by decide +kernel
set_option maxRecDepth 20000 in
theorem dX15_record_75 : decode cX15_record 75 = .ok (.ireturn, 1) := by decide +kernel
set_option maxRecDepth 20000 in
theorem dX15_queue_0 : decode cX15_queue 0 = .ok (.aload_n 0, 1) := by decide +kernel
set_option maxRecDepth 20000 in
theorem dX15_queue_1 : decode cX15_queue 1 = .ok (.iconst 0, 1) := by decide +kernel
set_option maxRecDepth 20000 in
theorem dX15_queue_2 : decode cX15_queue 2 = .ok (.putfield 73, 3) := by decide +kernel
set_option maxRecDepth 20000 in
theorem dX15_queue_5 : decode cX15_queue 5 = .ok (.aload_n 0, 1) := by decide +kernel
set_option maxRecDepth 20000 in
theorem dX15_queue_6 : decode cX15_queue 6 = .ok (.iload_n 1, 1) := by decide +kernel
set_option maxRecDepth 20000 in
theorem dX15_queue_7 : decode cX15_queue 7 = .ok (.invokevirtual 435, 3) := by decide +kernel
set_option maxRecDepth 20000 in
theorem dX15_queue_10 : decode cX15_queue 10 = .ok (.ifCond .eq 13, 3) := by decide +kernel
set_option maxRecDepth 20000 in
theorem dX15_queue_13 : decode cX15_queue 13 = .ok (.iload_n 2, 1) := by decide +kernel
set_option maxRecDepth 20000 in
theorem dX15_queue_14 : decode cX15_queue 14 = .ok (.iconst 0, 1) := by decide +kernel
set_option maxRecDepth 20000 in
theorem dX15_queue_15 : decode cX15_queue 15 = .ok (.ldc 76, 2) := by decide +kernel
set_option maxRecDepth 20000 in
theorem dX15_queue_17 : decode cX15_queue 17 = .ok (.invokestatic 81, 3) := by decide +kernel
set_option maxRecDepth 20000 in
theorem dX15_queue_20 : decode cX15_queue 20 = .ok (.ifCond .ne 5, 3) := by decide +kernel
set_option maxRecDepth 20000 in
theorem dX15_queue_23 : decode cX15_queue 23 = .ok (.iconst 0, 1) := by decide +kernel
set_option maxRecDepth 20000 in
theorem dX15_queue_24 : decode cX15_queue 24 = .ok (.ireturn, 1) := by decide +kernel
set_option maxRecDepth 20000 in
theorem dX15_queue_25 : decode cX15_queue 25 = .ok (.aload_n 0, 1) := by decide +kernel
set_option maxRecDepth 20000 in
theorem dX15_queue_26 : decode cX15_queue 26 = .ok (.getfield 9, 3) := by decide +kernel
set_option maxRecDepth 20000 in
theorem dX15_queue_29 : decode cX15_queue 29 = .ok (.iload_n 1, 1) := by decide +kernel
set_option maxRecDepth 20000 in
theorem dX15_queue_30 : decode cX15_queue 30 = .ok (.aaload, 1) := by decide +kernel
set_option maxRecDepth 20000 in
theorem dX15_queue_31 : decode cX15_queue 31 = .ok (.astore_n 3, 1) := by decide +kernel
set_option maxRecDepth 20000 in
theorem dX15_queue_32 : decode cX15_queue 32 = .ok (.aload_n 3, 1) := by decide +kernel
set_option maxRecDepth 20000 in
theorem dX15_queue_33 : decode cX15_queue 33 = .ok (.getfield 468, 3) := by decide +kernel
set_option maxRecDepth 20000 in
theorem dX15_queue_36 : decode cX15_queue 36 = .ok (.iconst 4, 1) := by decide +kernel
set_option maxRecDepth 20000 in
theorem dX15_queue_37 : decode cX15_queue 37 = .ok (.if_icmp .eq 12, 3) := by decide +kernel
set_option maxRecDepth 20000 in
theorem dX15_queue_40 : decode cX15_queue 40 = .ok (.aload_n 3, 1) := by decide +kernel
set_option maxRecDepth 20000 in
theorem dX15_queue_41 : decode cX15_queue 41 = .ok (.iload_n 2, 1) := by decide +kernel
set_option maxRecDepth 20000 in
theorem dX15_queue_42 : decode cX15_queue 42 = .ok (.invokevirtual 127, 3) := by decide +kernel
set_option maxRecDepth 20000 in
theorem dX15_queue_45 : decode cX15_queue 45 = .ok (.iconst (-1), 1) := by decide +kernel
set_option maxRecDepth 20000 in
theorem dX15_queue_46 : decode cX15_queue 46 = .ok (.if_icmp .eq 5, 3) := by decide +kernel
set_option maxRecDepth 20000 in
theorem dX15_queue_49 : decode cX15_queue 49 = .ok (.iconst 0, 1) := by decide +kernel
set_option maxRecDepth 20000 in
theorem dX15_queue_50 : decode cX15_queue 50 = .ok (.ireturn, 1) := by decide +kernel
set_option maxRecDepth 20000 in
theorem dX15_queue_51 : decode cX15_queue 51 = .ok (.aload_n 3, 1) := by decide +kernel
set_option maxRecDepth 20000 in
theorem dX15_queue_52 : decode cX15_queue 52 = .ok (.getfield 471, 3) := by decide +kernel
set_option maxRecDepth 20000 in
theorem dX15_queue_55 : decode cX15_queue 55 = .ok (.aload_n 3, 1) := by decide +kernel
set_option maxRecDepth 20000 in
theorem dX15_queue_56 : decode cX15_queue 56 = .ok (.getfield 468, 3) := by decide +kernel
set_option maxRecDepth 20000 in
theorem dX15_queue_59 : decode cX15_queue 59 = .ok (.iload_n 2, 1) := by decide +kernel
set_option maxRecDepth 20000 in
theorem dX15_queue_60 : decode cX15_queue 60 = .ok (.iastore, 1) := by decide +kernel
set_option maxRecDepth 20000 in
theorem dX15_queue_61 : decode cX15_queue 61 = .ok (.aload_n 3, 1) := by decide +kernel
set_option maxRecDepth 20000 in
theorem dX15_queue_62 : decode cX15_queue 62 = .ok (.getfield 131, 3) := by decide +kernel
set_option maxRecDepth 20000 in
theorem dX15_queue_65 : decode cX15_queue 65 = .ok (.aload_n 3, 1) := by decide +kernel
set_option maxRecDepth 20000 in
theorem dX15_queue_66 : decode cX15_queue 66 = .ok (.getfield 468, 3) := by decide +kernel
set_option maxRecDepth 20000 in
theorem dX15_queue_69 : decode cX15_queue 69 = .ok (.iconst 0, 1) := by decide +kernel
set_option maxRecDepth 20000 in
theorem dX15_queue_70 : decode cX15_queue 70 = .ok (.iastore, 1) := by decide +kernel
set_option maxRecDepth 20000 in
theorem dX15_queue_71 : decode cX15_queue 71 = .ok (.aload_n 3, 1) := by decide +kernel
set_option maxRecDepth 20000 in
theorem dX15_queue_72 : decode cX15_queue 72 = .ok (.dup, 1) := by decide +kernel
set_option maxRecDepth 20000 in
theorem dX15_queue_73 : decode cX15_queue 73 = .ok (.getfield 468, 3) := by decide +kernel
set_option maxRecDepth 20000 in
theorem dX15_queue_76 : decode cX15_queue 76 = .ok (.iconst 1, 1) := by decide +kernel
set_option maxRecDepth 20000 in
theorem dX15_queue_77 : decode cX15_queue 77 = .ok (.iadd, 1) := by decide +kernel
set_option maxRecDepth 20000 in
theorem dX15_queue_78 : decode cX15_queue 78 = .ok (.putfield 468, 3) := by decide +kernel
set_option maxRecDepth 20000 in
theorem dX15_queue_81 : decode cX15_queue 81 = .ok (.iconst 1, 1) := by decide +kernel
set_option maxRecDepth 20000 in
theorem dX15_queue_82 : decode cX15_queue 82 = .ok (.ireturn, 1) := by decide +kernel
set_option maxRecDepth 20000 in
theorem dX15_push_0 : decode cX15_push 0 = .ok (.aload_n 0, 1) := by decide +kernel
set_option maxRecDepth 20000 in
theorem dX15_push_1 : decode cX15_push 1 = .ok (.iconst 0, 1) := by decide +kernel
set_option maxRecDepth 20000 in
theorem dX15_push_2 : decode cX15_push 2 = .ok (.putfield 73, 3) := by decide +kernel
set_option maxRecDepth 20000 in
theorem dX15_push_5 : decode cX15_push 5 = .ok (.aload_n 0, 1) := by decide +kernel
set_option maxRecDepth 20000 in
theorem dX15_push_6 : decode cX15_push 6 = .ok (.iload_n 1, 1) := by decide +kernel
set_option maxRecDepth 20000 in
theorem dX15_push_7 : decode cX15_push 7 = .ok (.invokevirtual 435, 3) := by decide +kernel
set_option maxRecDepth 20000 in
theorem dX15_push_10 : decode cX15_push 10 = .ok (.ifCond .eq 16, 3) := by decide +kernel
set_option maxRecDepth 20000 in
theorem dX15_push_13 : decode cX15_push 13 = .ok (.aload_n 0, 1) := by decide +kernel
set_option maxRecDepth 20000 in
theorem dX15_push_14 : decode cX15_push 14 = .ok (.getfield 9, 3) := by decide +kernel
set_option maxRecDepth 20000 in
theorem dX15_push_17 : decode cX15_push 17 = .ok (.iload_n 1, 1) := by decide +kernel
set_option maxRecDepth 20000 in
theorem dX15_push_18 : decode cX15_push 18 = .ok (.aaload, 1) := by decide +kernel
set_option maxRecDepth 20000 in
theorem dX15_push_19 : decode cX15_push 19 = .ok (.iload_n 2, 1) := by decide +kernel
set_option maxRecDepth 20000 in
theorem dX15_push_20 : decode cX15_push 20 = .ok (.invokevirtual 127, 3) := by decide +kernel
set_option maxRecDepth 20000 in
theorem dX15_push_23 : decode cX15_push 23 = .ok (.goto 4, 3) := by decide +kernel
set_option maxRecDepth 20000 in
theorem dX15_push_26 : decode cX15_push 26 = .ok (.iconst (-1), 1) := by decide +kernel
set_option maxRecDepth 20000 in
theorem dX15_push_27 : decode cX15_push 27 = .ok (.istore 4, 2) := by decide +kernel
set_option maxRecDepth 20000 in
theorem dX15_push_29 : decode cX15_push 29 = .ok (.iload 4, 2) := by decide +kernel
set_option maxRecDepth 20000 in
theorem dX15_push_31 : decode cX15_push 31 = .ok (.iconst (-1), 1) := by decide +kernel
set_option maxRecDepth 20000 in
theorem dX15_push_32 : decode cX15_push 32 = .ok (.if_icmp .eq 20, 3) := by decide +kernel
set_option maxRecDepth 20000 in
theorem dX15_push_35 : decode cX15_push 35 = .ok (.aload_n 0, 1) := by decide +kernel
set_option maxRecDepth 20000 in
theorem dX15_push_36 : decode cX15_push 36 = .ok (.getfield 9, 3) := by decide +kernel
set_option maxRecDepth 20000 in
theorem dX15_push_39 : decode cX15_push 39 = .ok (.iload_n 1, 1) := by decide +kernel
set_option maxRecDepth 20000 in
theorem dX15_push_40 : decode cX15_push 40 = .ok (.aaload, 1) := by decide +kernel
set_option maxRecDepth 20000 in
theorem dX15_push_41 : decode cX15_push 41 = .ok (.getfield 131, 3) := by decide +kernel
set_option maxRecDepth 20000 in
theorem dX15_push_44 : decode cX15_push 44 = .ok (.iload 4, 2) := by decide +kernel
set_option maxRecDepth 20000 in
theorem dX15_push_46 : decode cX15_push 46 = .ok (.iaload, 1) := by decide +kernel
set_option maxRecDepth 20000 in
theorem dX15_push_47 : decode cX15_push 47 = .ok (.bipush 40, 2) := by decide +kernel
set_option maxRecDepth 20000 in
theorem dX15_push_49 : decode cX15_push 49 = .ok (.if_icmp .ne 5, 3) := by decide +kernel
set_option maxRecDepth 20000 in
theorem dX15_push_52 : decode cX15_push 52 = .ok (.iconst (-1), 1) := by decide +kernel
set_option maxRecDepth 20000 in
theorem dX15_push_53 : decode cX15_push 53 = .ok (.ireturn, 1) := by decide +kernel
set_option maxRecDepth 20000 in
theorem dX15_push_54 : decode cX15_push 54 = .ok (.aload_n 0, 1) := by decide +kernel
set_option maxRecDepth 20000 in
theorem dX15_push_55 : decode cX15_push 55 = .ok (.getfield 9, 3) := by decide +kernel
set_option maxRecDepth 20000 in
theorem dX15_push_58 : decode cX15_push 58 = .ok (.iload_n 1, 1) := by decide +kernel
set_option maxRecDepth 20000 in
theorem dX15_push_59 : decode cX15_push 59 = .ok (.aaload, 1) := by decide +kernel
set_option maxRecDepth 20000 in
theorem dX15_push_60 : decode cX15_push 60 = .ok (.iload 4, 2) := by decide +kernel
set_option maxRecDepth 20000 in
theorem dX15_push_62 : decode cX15_push 62 = .ok (.iload_n 3, 1) := by decide +kernel
set_option maxRecDepth 20000 in
theorem dX15_push_63 : decode cX15_push 63 = .ok (.ldc 76, 2) := by decide +kernel
set_option maxRecDepth 20000 in
theorem dX15_push_65 : decode cX15_push 65 = .ok (.iand, 1) := by decide +kernel
set_option maxRecDepth 20000 in
theorem dX15_push_66 : decode cX15_push 66 = .ok (.invokevirtual 285, 3) := by decide +kernel
set_option maxRecDepth 20000 in
theorem dX15_push_69 : decode cX15_push 69 = .ok (.aload_n 0, 1) := by decide +kernel
set_option maxRecDepth 20000 in
theorem dX15_push_70 : decode cX15_push 70 = .ok (.getfield 9, 3) := by decide +kernel
set_option maxRecDepth 20000 in
theorem dX15_push_73 : decode cX15_push 73 = .ok (.iload_n 1, 1) := by decide +kernel
set_option maxRecDepth 20000 in
theorem dX15_push_74 : decode cX15_push 74 = .ok (.aaload, 1) := by decide +kernel
set_option maxRecDepth 20000 in
theorem dX15_push_75 : decode cX15_push 75 = .ok (.getfield 131, 3) := by decide +kernel
set_option maxRecDepth 20000 in
theorem dX15_push_78 : decode cX15_push 78 = .ok (.iload 4, 2) := by decide +kernel
set_option maxRecDepth 20000 in
theorem dX15_push_80 : decode cX15_push 80 = .ok (.iaload, 1) := by decide +kernel
set_option maxRecDepth 20000 in
theorem dX15_push_81 : decode cX15_push 81 = .ok (.ireturn, 1) := by decide +kernel
set_option maxRecDepth 20000 in
theorem dX15_name_0 : decode cX15_name 0 = .ok (.aload_n 0, 1) := by decide +kernel
set_option maxRecDepth 20000 in
theorem dX15_name_1 : decode cX15_name 1 = .ok (.iconst 0, 1) := by decide +kernel
set_option maxRecDepth 20000 in
theorem dX15_name_2 : decode cX15_name 2 = .ok (.putfield 73, 3) := by decide +kernel
set_option maxRecDepth 20000 in
theorem dX15_name_5 : decode cX15_name 5 = .ok (.aload_n 0, 1) := by decide +kernel
set_option maxRecDepth 20000 in
theorem dX15_name_6 : decode cX15_name 6 = .ok (.iload_n 1, 1) := by decide +kernel
set_option maxRecDepth 20000 in
theorem dX15_name_7 : decode cX15_name 7 = .ok (.invokevirtual 435, 3) := by decide +kernel
set_option maxRecDepth 20000 in
theorem dX15_name_10 : decode cX15_name 10 = .ok (.ifCond .eq 35, 3) := by decide +kernel
set_option maxRecDepth 20000 in
theorem dX15_name_13 : decode cX15_name 13 = .ok (.iload_n 2, 1) := by decide +kernel
set_option maxRecDepth 20000 in
theorem dX15_name_14 : decode cX15_name 14 = .ok (.iconst 0, 1) := by decide +kernel
set_option maxRecDepth 20000 in
theorem dX15_name_15 : decode cX15_name 15 = .ok (.bipush 6, 2) := by decide +kernel
set_option maxRecDepth 20000 in
theorem dX15_name_17 : decode cX15_name 17 = .ok (.invokestatic 81, 3) := by decide +kernel
set_option maxRecDepth 20000 in
theorem dX15_name_20 : decode cX15_name 20 = .ok (.ifCond .ne 16, 3) := by decide +kernel
set_option maxRecDepth 20000 in
theorem dX15_name_23 : decode cX15_name 23 = .ok (.iload_n 2, 1) := by decide +kernel
set_option maxRecDepth 20000 in
theorem dX15_name_24 : decode cX15_name 24 = .ok (.sipush 128, 3) := by decide +kernel
set_option maxRecDepth 20000 in
theorem dX15_name_27 : decode cX15_name 27 = .ok (.sipush 255, 3) := by decide +kernel
set_option maxRecDepth 20000 in
theorem dX15_name_30 : decode cX15_name 30 = .ok (.invokestatic 81, 3) := by decide +kernel
set_option maxRecDepth 20000 in
theorem dX15_name_33 : decode cX15_name 33 = .ok (.ifCond .eq 12, 3) := by decide +kernel
set_option maxRecDepth 20000 in
theorem dX15_name_36 : decode cX15_name 36 = .ok (.aload_n 0, 1) := by decide +kernel
set_option maxRecDepth 20000 in
theorem dX15_name_37 : decode cX15_name 37 = .ok (.getfield 432, 3) := by decide +kernel
set_option maxRecDepth 20000 in
theorem dX15_name_40 : decode cX15_name 40 = .ok (.bipush 40, 2) := by decide +kernel
set_option maxRecDepth 20000 in
theorem dX15_name_42 : decode cX15_name 42 = .ok (.if_icmp .le 5, 3) := by decide +kernel
set_option maxRecDepth 20000 in
theorem dX15_name_45 : decode cX15_name 45 = .ok (.iconst 0, 1) := by decide +kernel
set_option maxRecDepth 20000 in
theorem dX15_name_46 : decode cX15_name 46 = .ok (.ireturn, 1) := by decide +kernel
set_option maxRecDepth 20000 in
theorem dX15_name_47 : decode cX15_name 47 = .ok (.aload_n 0, 1) := by decide +kernel
set_option maxRecDepth 20000 in
theorem dX15_name_48 : decode cX15_name 48 = .ok (.getfield 9, 3) := by decide +kernel
set_option maxRecDepth 20000 in
theorem dX15_name_51 : decode cX15_name 51 = .ok (.iload_n 1, 1) := by decide +kernel
set_option maxRecDepth 20000 in
theorem dX15_name_52 : decode cX15_name 52 = .ok (.aaload, 1) := by decide +kernel
set_option maxRecDepth 20000 in
theorem dX15_name_53 : decode cX15_name 53 = .ok (.astore_n 3, 1) := by decide +kernel
set_option maxRecDepth 20000 in
theorem dX15_name_54 : decode cX15_name 54 = .ok (.aload_n 3, 1) := by decide +kernel
set_option maxRecDepth 20000 in
theorem dX15_name_55 : decode cX15_name 55 = .ok (.iload_n 2, 1) := by decide +kernel
set_option maxRecDepth 20000 in
theorem dX15_name_56 : decode cX15_name 56 = .ok (.invokevirtual 134, 3) := by decide +kernel
set_option maxRecDepth 20000 in
theorem dX15_name_59 : decode cX15_name 59 = .ok (.istore 4, 2) := by decide +kernel
set_option maxRecDepth 20000 in
theorem dX15_name_61 : decode cX15_name 61 = .ok (.iload 4, 2) := by decide +kernel
set_option maxRecDepth 20000 in
theorem dX15_name_63 : decode cX15_name 63 = .ok (.iconst (-1), 1) := by decide +kernel
set_option maxRecDepth 20000 in
theorem dX15_name_64 : decode cX15_name 64 = .ok (.if_icmp .ne 124, 3) := by decide +kernel
set_option maxRecDepth 20000 in
theorem dX15_name_67 : decode cX15_name 67 = .ok (.aload_n 3, 1) := by decide +kernel
set_option maxRecDepth 20000 in
theorem dX15_name_68 : decode cX15_name 68 = .ok (.getfield 221, 3) := by decide +kernel
set_option maxRecDepth 20000 in
theorem dX15_name_71 : decode cX15_name 71 = .ok (.bipush 10, 2) := by decide +kernel
set_option maxRecDepth 20000 in
theorem dX15_name_73 : decode cX15_name 73 = .ok (.if_icmp .ne 5, 3) := by decide +kernel
set_option maxRecDepth 20000 in
theorem dX15_name_76 : decode cX15_name 76 = .ok (.iconst 0, 1) := by decide +kernel
set_option maxRecDepth 20000 in
theorem dX15_name_77 : decode cX15_name 77 = .ok (.ireturn, 1) := by decide +kernel
set_option maxRecDepth 20000 in
theorem dX15_name_78 : decode cX15_name 78 = .ok (.aload_n 3, 1) := by decide +kernel
set_option maxRecDepth 20000 in
theorem dX15_name_79 : decode cX15_name 79 = .ok (.getfield 221, 3) := by decide +kernel
set_option maxRecDepth 20000 in
theorem dX15_name_82 : decode cX15_name 82 = .ok (.istore 4, 2) := by decide +kernel
set_option maxRecDepth 20000 in
theorem dX15_name_84 : decode cX15_name 84 = .ok (.aload_n 3, 1) := by decide +kernel
set_option maxRecDepth 20000 in
theorem dX15_name_85 : decode cX15_name 85 = .ok (.dup, 1) := by decide +kernel
set_option maxRecDepth 20000 in
theorem dX15_name_86 : decode cX15_name 86 = .ok (.getfield 221, 3) := by decide +kernel
set_option maxRecDepth 20000 in
theorem dX15_name_89 : decode cX15_name 89 = .ok (.iconst 1, 1) := by decide +kernel
set_option maxRecDepth 20000 in
theorem dX15_name_90 : decode cX15_name 90 = .ok (.iadd, 1) := by decide +kernel
set_option maxRecDepth 20000 in
theorem dX15_name_91 : decode cX15_name 91 = .ok (.putfield 221, 3) := by decide +kernel
set_option maxRecDepth 20000 in
theorem dX15_name_94 : decode cX15_name 94 = .ok (.iload 4, 2) := by decide +kernel
set_option maxRecDepth 20000 in
theorem dX15_name_96 : decode cX15_name 96 = .ok (.ifCond .le 92, 3) := by decide +kernel
set_option maxRecDepth 20000 in
theorem dX15_name_99 : decode cX15_name 99 = .ok (.aload_n 3, 1) := by decide +kernel
set_option maxRecDepth 20000 in
theorem dX15_name_100 : decode cX15_name 100 = .ok (.getfield 224, 3) := by decide +kernel
set_option maxRecDepth 20000 in
theorem dX15_name_103 : decode cX15_name 103 = .ok (.iload 4, 2) := by decide +kernel
set_option maxRecDepth 20000 in
theorem dX15_name_105 : decode cX15_name 105 = .ok (.iconst 1, 1) := by decide +kernel
set_option maxRecDepth 20000 in
theorem dX15_name_106 : decode cX15_name 106 = .ok (.isub, 1) := by decide +kernel
set_option maxRecDepth 20000 in
theorem dX15_name_107 : decode cX15_name 107 = .ok (.iaload, 1) := by decide +kernel
set_option maxRecDepth 20000 in
theorem dX15_name_108 : decode cX15_name 108 = .ok (.iload_n 2, 1) := by decide +kernel
set_option maxRecDepth 20000 in
theorem dX15_name_109 : decode cX15_name 109 = .ok (.if_icmp .le 79, 3) := by decide +kernel
set_option maxRecDepth 20000 in
theorem dX15_name_112 : decode cX15_name 112 = .ok (.aload_n 3, 1) := by decide +kernel
set_option maxRecDepth 20000 in
theorem dX15_name_113 : decode cX15_name 113 = .ok (.getfield 224, 3) := by decide +kernel
set_option maxRecDepth 20000 in
theorem dX15_name_116 : decode cX15_name 116 = .ok (.iload 4, 2) := by decide +kernel
set_option maxRecDepth 20000 in
theorem dX15_name_118 : decode cX15_name 118 = .ok (.aload_n 3, 1) := by decide +kernel
set_option maxRecDepth 20000 in
theorem dX15_name_119 : decode cX15_name 119 = .ok (.getfield 224, 3) := by decide +kernel
set_option maxRecDepth 20000 in
theorem dX15_name_122 : decode cX15_name 122 = .ok (.iload 4, 2) := by decide +kernel
set_option maxRecDepth 20000 in
theorem dX15_name_124 : decode cX15_name 124 = .ok (.iconst 1, 1) := by decide +kernel
set_option maxRecDepth 20000 in
theorem dX15_name_125 : decode cX15_name 125 = .ok (.isub, 1) := by decide +kernel
set_option maxRecDepth 20000 in
theorem dX15_name_126 : decode cX15_name 126 = .ok (.iaload, 1) := by decide +kernel
set_option maxRecDepth 20000 in
theorem dX15_name_127 : decode cX15_name 127 = .ok (.iastore, 1) := by decide +kernel
set_option maxRecDepth 20000 in
theorem dX15_name_128 : decode cX15_name 128 = .ok (.aload_n 3, 1) := by decide +kernel
set_option maxRecDepth 20000 in
theorem dX15_name_129 : decode cX15_name 129 = .ok (.getfield 232, 3) := by decide +kernel
set_option maxRecDepth 20000 in
theorem dX15_name_132 : decode cX15_name 132 = .ok (.iload 4, 2) := by decide +kernel
set_option maxRecDepth 20000 in
theorem dX15_name_134 : decode cX15_name 134 = .ok (.aload_n 3, 1) := by decide +kernel
set_option maxRecDepth 20000 in
theorem dX15_name_135 : decode cX15_name 135 = .ok (.getfield 232, 3) := by decide +kernel
set_option maxRecDepth 20000 in
theorem dX15_name_138 : decode cX15_name 138 = .ok (.iload 4, 2) := by decide +kernel
set_option maxRecDepth 20000 in
theorem dX15_name_140 : decode cX15_name 140 = .ok (.iconst 1, 1) := by decide +kernel
set_option maxRecDepth 20000 in
theorem dX15_name_141 : decode cX15_name 141 = .ok (.isub, 1) := by decide +kernel
set_option maxRecDepth 20000 in
theorem dX15_name_142 : decode cX15_name 142 = .ok (.iaload, 1) := by decide +kernel
set_option maxRecDepth 20000 in
theorem dX15_name_143 : decode cX15_name 143 = .ok (.iastore, 1) := by decide +kernel
set_option maxRecDepth 20000 in
theorem dX15_name_144 : decode cX15_name 144 = .ok (.iconst 0, 1) := by decide +kernel
set_option maxRecDepth 20000 in
theorem dX15_name_145 : decode cX15_name 145 = .ok (.istore 5, 2) := by decide +kernel
set_option maxRecDepth 20000 in
theorem dX15_name_147 : decode cX15_name 147 = .ok (.iload 5, 2) := by decide +kernel
set_option maxRecDepth 20000 in
theorem dX15_name_149 : decode cX15_name 149 = .ok (.bipush 40, 2) := by decide +kernel
set_option maxRecDepth 20000 in
theorem dX15_name_151 : decode cX15_name 151 = .ok (.if_icmp .ge 31, 3) := by decide +kernel
set_option maxRecDepth 20000 in
theorem dX15_name_154 : decode cX15_name 154 = .ok (.aload_n 3, 1) := by decide +kernel
set_option maxRecDepth 20000 in
theorem dX15_name_155 : decode cX15_name 155 = .ok (.getfield 235, 3) := by decide +kernel
set_option maxRecDepth 20000 in
theorem dX15_name_158 : decode cX15_name 158 = .ok (.iload 4, 2) := by decide +kernel
set_option maxRecDepth 20000 in
theorem dX15_name_160 : decode cX15_name 160 = .ok (.aaload, 1) := by decide +kernel
set_option maxRecDepth 20000 in
theorem dX15_name_161 : decode cX15_name 161 = .ok (.iload 5, 2) := by decide +kernel
set_option maxRecDepth 20000 in
theorem dX15_name_163 : decode cX15_name 163 = .ok (.aload_n 3, 1) := by decide +kernel
set_option maxRecDepth 20000 in
theorem dX15_name_164 : decode cX15_name 164 = .ok (.getfield 235, 3) := by decide +kernel
set_option maxRecDepth 20000 in
theorem dX15_name_167 : decode cX15_name 167 = .ok (.iload 4, 2) := by decide +kernel
set_option maxRecDepth 20000 in
theorem dX15_name_169 : decode cX15_name 169 = .ok (.iconst 1, 1) := by decide +kernel
set_option maxRecDepth 20000 in
theorem dX15_name_170 : decode cX15_name 170 = .ok (.isub, 1) := by decide +kernel
set_option maxRecDepth 20000 in
theorem dX15_name_171 : decode cX15_name 171 = .ok (.aaload, 1) := by decide +kernel
set_option maxRecDepth 20000 in
theorem dX15_name_172 : decode cX15_name 172 = .ok (.iload 5, 2) := by decide +kernel
set_option maxRecDepth 20000 in
theorem dX15_name_174 : decode cX15_name 174 = .ok (.iaload, 1) := by decide +kernel
set_option maxRecDepth 20000 in
theorem dX15_name_175 : decode cX15_name 175 = .ok (.iastore, 1) := by decide +kernel
set_option maxRecDepth 20000 in
theorem dX15_name_176 : decode cX15_name 176 = .ok (.iinc 5 1, 3) := by decide +kernel
set_option maxRecDepth 20000 in
theorem dX15_name_179 : decode cX15_name 179 = .ok (.goto (-32), 3) := by decide +kernel
set_option maxRecDepth 20000 in
theorem dX15_name_182 : decode cX15_name 182 = .ok (.iinc 4 (-1), 3) := by decide +kernel
set_option maxRecDepth 20000 in
theorem dX15_name_185 : decode cX15_name 185 = .ok (.goto (-91), 3) := by decide +kernel
set_option maxRecDepth 20000 in
theorem dX15_name_188 : decode cX15_name 188 = .ok (.aload_n 3, 1) := by decide +kernel
set_option maxRecDepth 20000 in
theorem dX15_name_189 : decode cX15_name 189 = .ok (.getfield 224, 3) := by decide +kernel
set_option maxRecDepth 20000 in
theorem dX15_name_192 : decode cX15_name 192 = .ok (.iload 4, 2) := by decide +kernel
set_option maxRecDepth 20000 in
theorem dX15_name_194 : decode cX15_name 194 = .ok (.iload_n 2, 1) := by decide +kernel
set_option maxRecDepth 20000 in
theorem dX15_name_195 : decode cX15_name 195 = .ok (.iastore, 1) := by decide +kernel
set_option maxRecDepth 20000 in
theorem dX15_name_196 : decode cX15_name 196 = .ok (.aload_n 3, 1) := by decide +kernel
set_option maxRecDepth 20000 in
theorem dX15_name_197 : decode cX15_name 197 = .ok (.getfield 232, 3) := by decide +kernel
set_option maxRecDepth 20000 in
theorem dX15_name_200 : decode cX15_name 200 = .ok (.iload 4, 2) := by decide +kernel
set_option maxRecDepth 20000 in
theorem dX15_name_202 : decode cX15_name 202 = .ok (.aload_n 0, 1) := by decide +kernel
set_option maxRecDepth 20000 in
theorem dX15_name_203 : decode cX15_name 203 = .ok (.getfield 432, 3) := by decide +kernel
set_option maxRecDepth 20000 in
theorem dX15_name_206 : decode cX15_name 206 = .ok (.iastore, 1) := by decide +kernel
set_option maxRecDepth 20000 in
theorem dX15_name_207 : decode cX15_name 207 = .ok (.iconst 0, 1) := by decide +kernel
set_option maxRecDepth 20000 in
theorem dX15_name_208 : decode cX15_name 208 = .ok (.istore 5, 2) := by decide +kernel
set_option maxRecDepth 20000 in
theorem dX15_name_210 : decode cX15_name 210 = .ok (.iload 5, 2) := by decide +kernel
set_option maxRecDepth 20000 in
theorem dX15_name_212 : decode cX15_name 212 = .ok (.aload_n 0, 1) := by decide +kernel
set_option maxRecDepth 20000 in
theorem dX15_name_213 : decode cX15_name 213 = .ok (.getfield 432, 3) := by decide +kernel
set_option maxRecDepth 20000 in
theorem dX15_name_216 : decode cX15_name 216 = .ok (.if_icmp .ge 26, 3) := by decide +kernel
set_option maxRecDepth 20000 in
theorem dX15_name_219 : decode cX15_name 219 = .ok (.aload_n 3, 1) := by decide +kernel
set_option maxRecDepth 20000 in
theorem dX15_name_220 : decode cX15_name 220 = .ok (.getfield 235, 3) := by decide +kernel
set_option maxRecDepth 20000 in
theorem dX15_name_223 : decode cX15_name 223 = .ok (.iload 4, 2) := by decide +kernel
set_option maxRecDepth 20000 in
theorem dX15_name_225 : decode cX15_name 225 = .ok (.aaload, 1) := by decide +kernel
set_option maxRecDepth 20000 in
theorem dX15_name_226 : decode cX15_name 226 = .ok (.iload 5, 2) := by decide +kernel
set_option maxRecDepth 20000 in
theorem dX15_name_228 : decode cX15_name 228 = .ok (.aload_n 0, 1) := by decide +kernel
set_option maxRecDepth 20000 in
theorem dX15_name_229 : decode cX15_name 229 = .ok (.getfield 66, 3) := by decide +kernel
set_option maxRecDepth 20000 in
theorem dX15_name_232 : decode cX15_name 232 = .ok (.iload 5, 2) := by decide +kernel
set_option maxRecDepth 20000 in
theorem dX15_name_234 : decode cX15_name 234 = .ok (.iaload, 1) := by decide +kernel
set_option maxRecDepth 20000 in
theorem dX15_name_235 : decode cX15_name 235 = .ok (.iastore, 1) := by decide +kernel
set_option maxRecDepth 20000 in
theorem dX15_name_236 : decode cX15_name 236 = .ok (.iinc 5 1, 3) := by decide +kernel
set_option maxRecDepth 20000 in
theorem dX15_name_239 : decode cX15_name 239 = .ok (.goto (-29), 3) := by decide +kernel
set_option maxRecDepth 20000 in
theorem dX15_name_242 : decode cX15_name 242 = .ok (.aload_n 0, 1) := by decide +kernel
set_option maxRecDepth 20000 in
theorem dX15_name_243 : decode cX15_name 243 = .ok (.iconst 0, 1) := by decide +kernel
set_option maxRecDepth 20000 in
theorem dX15_name_244 : decode cX15_name 244 = .ok (.putfield 432, 3) := by decide +kernel
set_option maxRecDepth 20000 in
theorem dX15_name_247 : decode cX15_name 247 = .ok (.iconst 1, 1) := by decide +kernel
set_option maxRecDepth 20000 in
theorem dX15_name_248 : decode cX15_name 248 = .ok (.ireturn, 1) := by decide +kernel
set_option maxRecDepth 20000 in
theorem dX15_rule_0 : decode cX15_rule 0 = .ok (.aload_n 0, 1) := by decide +kernel
set_option maxRecDepth 20000 in
theorem dX15_rule_1 : decode cX15_rule 1 = .ok (.iconst 0, 1) := by decide +kernel
set_option maxRecDepth 20000 in
theorem dX15_rule_2 : decode cX15_rule 2 = .ok (.putfield 73, 3) := by decide +kernel
set_option maxRecDepth 20000 in
theorem dX15_rule_5 : decode cX15_rule 5 = .ok (.aload_n 0, 1) := by decide +kernel
set_option maxRecDepth 20000 in
theorem dX15_rule_6 : decode cX15_rule 6 = .ok (.iload_n 1, 1) := by decide +kernel
set_option maxRecDepth 20000 in
theorem dX15_rule_7 : decode cX15_rule 7 = .ok (.invokevirtual 435, 3) := by decide +kernel
set_option maxRecDepth 20000 in
theorem dX15_rule_10 : decode cX15_rule 10 = .ok (.ifCond .eq 59, 3) := by decide +kernel
set_option maxRecDepth 20000 in
theorem dX15_rule_13 : decode cX15_rule 13 = .ok (.iload_n 2, 1) := by decide +kernel
set_option maxRecDepth 20000 in
theorem dX15_rule_14 : decode cX15_rule 14 = .ok (.iconst 0, 1) := by decide +kernel
set_option maxRecDepth 20000 in
theorem dX15_rule_15 : decode cX15_rule 15 = .ok (.bipush 6, 2) := by decide +kernel
set_option maxRecDepth 20000 in
theorem dX15_rule_17 : decode cX15_rule 17 = .ok (.invokestatic 81, 3) := by decide +kernel
set_option maxRecDepth 20000 in
theorem dX15_rule_20 : decode cX15_rule 20 = .ok (.ifCond .eq 49, 3) := by decide +kernel
set_option maxRecDepth 20000 in
theorem dX15_rule_23 : decode cX15_rule 23 = .ok (.iload_n 3, 1) := by decide +kernel
set_option maxRecDepth 20000 in
theorem dX15_rule_24 : decode cX15_rule 24 = .ok (.iconst 0, 1) := by decide +kernel
set_option maxRecDepth 20000 in
theorem dX15_rule_25 : decode cX15_rule 25 = .ok (.ldc 76, 2) := by decide +kernel
set_option maxRecDepth 20000 in
theorem dX15_rule_27 : decode cX15_rule 27 = .ok (.invokestatic 81, 3) := by decide +kernel
set_option maxRecDepth 20000 in
theorem dX15_rule_30 : decode cX15_rule 30 = .ok (.ifCond .eq 39, 3) := by decide +kernel
set_option maxRecDepth 20000 in
theorem dX15_rule_33 : decode cX15_rule 33 = .ok (.iload 4, 2) := by decide +kernel
set_option maxRecDepth 20000 in
theorem dX15_rule_35 : decode cX15_rule 35 = .ok (.iconst 0, 1) := by decide +kernel
set_option maxRecDepth 20000 in
theorem dX15_rule_36 : decode cX15_rule 36 = .ok (.ldc 76, 2) := by decide +kernel
set_option maxRecDepth 20000 in
theorem dX15_rule_38 : decode cX15_rule 38 = .ok (.invokestatic 81, 3) := by decide +kernel
set_option maxRecDepth 20000 in
theorem dX15_rule_41 : decode cX15_rule 41 = .ok (.ifCond .eq 28, 3) := by decide +kernel
set_option maxRecDepth 20000 in
theorem dX15_rule_44 : decode cX15_rule 44 = .ok (.iload 5, 2) := by decide +kernel
set_option maxRecDepth 20000 in
theorem dX15_rule_46 : decode cX15_rule 46 = .ok (.iconst 0, 1) := by decide +kernel
set_option maxRecDepth 20000 in
theorem dX15_rule_47 : decode cX15_rule 47 = .ok (.ldc 76, 2) := by decide +kernel
set_option maxRecDepth 20000 in
theorem dX15_rule_49 : decode cX15_rule 49 = .ok (.invokestatic 81, 3) := by decide +kernel
set_option maxRecDepth 20000 in
theorem dX15_rule_52 : decode cX15_rule 52 = .ok (.ifCond .eq 17, 3) := by decide +kernel
set_option maxRecDepth 20000 in
theorem dX15_rule_55 : decode cX15_rule 55 = .ok (.aload_n 0, 1) := by decide +kernel
set_option maxRecDepth 20000 in
theorem dX15_rule_56 : decode cX15_rule 56 = .ok (.getfield 9, 3) := by decide +kernel
set_option maxRecDepth 20000 in
theorem dX15_rule_59 : decode cX15_rule 59 = .ok (.iload_n 1, 1) := by decide +kernel
set_option maxRecDepth 20000 in
theorem dX15_rule_60 : decode cX15_rule 60 = .ok (.aaload, 1) := by decide +kernel
set_option maxRecDepth 20000 in
theorem dX15_rule_61 : decode cX15_rule 61 = .ok (.getfield 272, 3) := by decide +kernel
set_option maxRecDepth 20000 in
theorem dX15_rule_64 : decode cX15_rule 64 = .ok (.bipush 12, 2) := by decide +kernel
set_option maxRecDepth 20000 in
theorem dX15_rule_66 : decode cX15_rule 66 = .ok (.if_icmp .ne 5, 3) := by decide +kernel
set_option maxRecDepth 20000 in
theorem dX15_rule_69 : decode cX15_rule 69 = .ok (.iconst 0, 1) := by decide +kernel
set_option maxRecDepth 20000 in
theorem dX15_rule_70 : decode cX15_rule 70 = .ok (.ireturn, 1) := by decide +kernel
set_option maxRecDepth 20000 in
theorem dX15_rule_71 : decode cX15_rule 71 = .ok (.aload_n 0, 1) := by decide +kernel
set_option maxRecDepth 20000 in
theorem dX15_rule_72 : decode cX15_rule 72 = .ok (.getfield 9, 3) := by decide +kernel
set_option maxRecDepth 20000 in
theorem dX15_rule_75 : decode cX15_rule 75 = .ok (.iload_n 1, 1) := by decide +kernel
set_option maxRecDepth 20000 in
theorem dX15_rule_76 : decode cX15_rule 76 = .ok (.aaload, 1) := by decide +kernel
set_option maxRecDepth 20000 in
theorem dX15_rule_77 : decode cX15_rule 77 = .ok (.astore 6, 2) := by decide +kernel
set_option maxRecDepth 20000 in
theorem dX15_rule_79 : decode cX15_rule 79 = .ok (.aload 6, 2) := by decide +kernel
set_option maxRecDepth 20000 in
theorem dX15_rule_81 : decode cX15_rule 81 = .ok (.getfield 275, 3) := by decide +kernel
set_option maxRecDepth 20000 in
theorem dX15_rule_84 : decode cX15_rule 84 = .ok (.iconst 4, 1) := by decide +kernel
set_option maxRecDepth 20000 in
theorem dX15_rule_85 : decode cX15_rule 85 = .ok (.aload 6, 2) := by decide +kernel
set_option maxRecDepth 20000 in
theorem dX15_rule_87 : decode cX15_rule 87 = .ok (.getfield 272, 3) := by decide +kernel
set_option maxRecDepth 20000 in
theorem dX15_rule_90 : decode cX15_rule 90 = .ok (.imul, 1) := by decide +kernel
set_option maxRecDepth 20000 in
theorem dX15_rule_91 : decode cX15_rule 91 = .ok (.iload_n 2, 1) := by decide +kernel
set_option maxRecDepth 20000 in
theorem dX15_rule_92 : decode cX15_rule 92 = .ok (.iastore, 1) := by decide +kernel
set_option maxRecDepth 20000 in
theorem dX15_rule_93 : decode cX15_rule 93 = .ok (.aload 6, 2) := by decide +kernel
set_option maxRecDepth 20000 in
theorem dX15_rule_95 : decode cX15_rule 95 = .ok (.getfield 275, 3) := by decide +kernel
set_option maxRecDepth 20000 in
theorem dX15_rule_98 : decode cX15_rule 98 = .ok (.iconst 4, 1) := by decide +kernel
set_option maxRecDepth 20000 in
theorem dX15_rule_99 : decode cX15_rule 99 = .ok (.aload 6, 2) := by decide +kernel
set_option maxRecDepth 20000 in
theorem dX15_rule_101 : decode cX15_rule 101 = .ok (.getfield 272, 3) := by decide +kernel
set_option maxRecDepth 20000 in
theorem dX15_rule_104 : decode cX15_rule 104 = .ok (.imul, 1) := by decide +kernel
set_option maxRecDepth 20000 in
theorem dX15_rule_105 : decode cX15_rule 105 = .ok (.iconst 1, 1) := by decide +kernel
set_option maxRecDepth 20000 in
theorem dX15_rule_106 : decode cX15_rule 106 = .ok (.iadd, 1) := by decide +kernel
set_option maxRecDepth 20000 in
theorem dX15_rule_107 : decode cX15_rule 107 = .ok (.iload_n 3, 1) := by decide +kernel
set_option maxRecDepth 20000 in
theorem dX15_rule_108 : decode cX15_rule 108 = .ok (.iastore, 1) := by decide +kernel
set_option maxRecDepth 20000 in
theorem dX15_rule_109 : decode cX15_rule 109 = .ok (.aload 6, 2) := by decide +kernel
set_option maxRecDepth 20000 in
theorem dX15_rule_111 : decode cX15_rule 111 = .ok (.getfield 275, 3) := by decide +kernel
set_option maxRecDepth 20000 in
theorem dX15_rule_114 : decode cX15_rule 114 = .ok (.iconst 4, 1) := by decide +kernel
set_option maxRecDepth 20000 in
theorem dX15_rule_115 : decode cX15_rule 115 = .ok (.aload 6, 2) := by decide +kernel
set_option maxRecDepth 20000 in
theorem dX15_rule_117 : decode cX15_rule 117 = .ok (.getfield 272, 3) := by decide +kernel
set_option maxRecDepth 20000 in
theorem dX15_rule_120 : decode cX15_rule 120 = .ok (.imul, 1) := by decide +kernel
set_option maxRecDepth 20000 in
theorem dX15_rule_121 : decode cX15_rule 121 = .ok (.iconst 2, 1) := by decide +kernel
set_option maxRecDepth 20000 in
theorem dX15_rule_122 : decode cX15_rule 122 = .ok (.iadd, 1) := by decide +kernel
set_option maxRecDepth 20000 in
theorem dX15_rule_123 : decode cX15_rule 123 = .ok (.iload 4, 2) := by decide +kernel
set_option maxRecDepth 20000 in
theorem dX15_rule_125 : decode cX15_rule 125 = .ok (.iastore, 1) := by decide +kernel
set_option maxRecDepth 20000 in
theorem dX15_rule_126 : decode cX15_rule 126 = .ok (.aload 6, 2) := by decide +kernel
set_option maxRecDepth 20000 in
theorem dX15_rule_128 : decode cX15_rule 128 = .ok (.getfield 275, 3) := by decide +kernel
set_option maxRecDepth 20000 in
theorem dX15_rule_131 : decode cX15_rule 131 = .ok (.iconst 4, 1) := by decide +kernel
set_option maxRecDepth 20000 in
theorem dX15_rule_132 : decode cX15_rule 132 = .ok (.aload 6, 2) := by decide +kernel
set_option maxRecDepth 20000 in
theorem dX15_rule_134 : decode cX15_rule 134 = .ok (.getfield 272, 3) := by decide +kernel
set_option maxRecDepth 20000 in
theorem dX15_rule_137 : decode cX15_rule 137 = .ok (.imul, 1) := by decide +kernel
set_option maxRecDepth 20000 in
theorem dX15_rule_138 : decode cX15_rule 138 = .ok (.iconst 3, 1) := by decide +kernel
set_option maxRecDepth 20000 in
theorem dX15_rule_139 : decode cX15_rule 139 = .ok (.iadd, 1) := by decide +kernel
set_option maxRecDepth 20000 in
theorem dX15_rule_140 : decode cX15_rule 140 = .ok (.iload 5, 2) := by decide +kernel
set_option maxRecDepth 20000 in
theorem dX15_rule_142 : decode cX15_rule 142 = .ok (.iastore, 1) := by decide +kernel
set_option maxRecDepth 20000 in
theorem dX15_rule_143 : decode cX15_rule 143 = .ok (.aload 6, 2) := by decide +kernel
set_option maxRecDepth 20000 in
theorem dX15_rule_145 : decode cX15_rule 145 = .ok (.dup, 1) := by decide +kernel
set_option maxRecDepth 20000 in
theorem dX15_rule_146 : decode cX15_rule 146 = .ok (.getfield 272, 3) := by decide +kernel
set_option maxRecDepth 20000 in
theorem dX15_rule_149 : decode cX15_rule 149 = .ok (.iconst 1, 1) := by decide +kernel
set_option maxRecDepth 20000 in
theorem dX15_rule_150 : decode cX15_rule 150 = .ok (.iadd, 1) := by decide +kernel
set_option maxRecDepth 20000 in
theorem dX15_rule_151 : decode cX15_rule 151 = .ok (.putfield 272, 3) := by decide +kernel
set_option maxRecDepth 20000 in
theorem dX15_rule_154 : decode cX15_rule 154 = .ok (.iconst 1, 1) := by decide +kernel
set_option maxRecDepth 20000 in
theorem dX15_rule_155 : decode cX15_rule 155 = .ok (.ireturn, 1) := by decide +kernel
set_option maxRecDepth 20000 in
theorem dX15_busy_0 : decode cX15_busy 0 = .ok (.aload_n 0, 1) := by decide +kernel
set_option maxRecDepth 20000 in
theorem dX15_busy_1 : decode cX15_busy 1 = .ok (.iconst 0, 1) := by decide +kernel
set_option maxRecDepth 20000 in
theorem dX15_busy_2 : decode cX15_busy 2 = .ok (.putfield 73, 3) := by decide +kernel
set_option maxRecDepth 20000 in
theorem dX15_busy_5 : decode cX15_busy 5 = .ok (.aload_n 0, 1) := by decide +kernel
set_option maxRecDepth 20000 in
theorem dX15_busy_6 : decode cX15_busy 6 = .ok (.iload_n 1, 1) := by decide +kernel
set_option maxRecDepth 20000 in
theorem dX15_busy_7 : decode cX15_busy 7 = .ok (.invokevirtual 435, 3) := by decide +kernel
set_option maxRecDepth 20000 in
theorem dX15_busy_10 : decode cX15_busy 10 = .ok (.ifCond .eq 13, 3) := by decide +kernel
set_option maxRecDepth 20000 in
theorem dX15_busy_13 : decode cX15_busy 13 = .ok (.iload_n 2, 1) := by decide +kernel
set_option maxRecDepth 20000 in
theorem dX15_busy_14 : decode cX15_busy 14 = .ok (.iconst 0, 1) := by decide +kernel
set_option maxRecDepth 20000 in
theorem dX15_busy_15 : decode cX15_busy 15 = .ok (.bipush 9, 2) := by decide +kernel
set_option maxRecDepth 20000 in
theorem dX15_busy_17 : decode cX15_busy 17 = .ok (.invokestatic 81, 3) := by decide +kernel
set_option maxRecDepth 20000 in
theorem dX15_busy_20 : decode cX15_busy 20 = .ok (.ifCond .ne 5, 3) := by decide +kernel
set_option maxRecDepth 20000 in
theorem dX15_busy_23 : decode cX15_busy 23 = .ok (.iconst 0, 1) := by decide +kernel
set_option maxRecDepth 20000 in
theorem dX15_busy_24 : decode cX15_busy 24 = .ok (.ireturn, 1) := by decide +kernel
set_option maxRecDepth 20000 in
theorem dX15_busy_25 : decode cX15_busy 25 = .ok (.aload_n 0, 1) := by decide +kernel
set_option maxRecDepth 20000 in
theorem dX15_busy_26 : decode cX15_busy 26 = .ok (.getfield 9, 3) := by decide +kernel
set_option maxRecDepth 20000 in
theorem dX15_busy_29 : decode cX15_busy 29 = .ok (.iload_n 1, 1) := by decide +kernel
set_option maxRecDepth 20000 in
theorem dX15_busy_30 : decode cX15_busy 30 = .ok (.aaload, 1) := by decide +kernel
set_option maxRecDepth 20000 in
theorem dX15_busy_31 : decode cX15_busy 31 = .ok (.iload_n 2, 1) := by decide +kernel
set_option maxRecDepth 20000 in
theorem dX15_busy_32 : decode cX15_busy 32 = .ok (.putfield 147, 3) := by decide +kernel
set_option maxRecDepth 20000 in
theorem dX15_busy_35 : decode cX15_busy 35 = .ok (.iconst 1, 1) := by decide +kernel
set_option maxRecDepth 20000 in
theorem dX15_busy_36 : decode cX15_busy 36 = .ok (.ireturn, 1) := by decide +kernel
set_option maxRecDepth 20000 in
theorem dX15_serve__0 : decode cX15_serve_ 0 = .ok (.aload_n 0, 1) := by decide +kernel
set_option maxRecDepth 20000 in
theorem dX15_serve__1 : decode cX15_serve_ 1 = .ok (.iconst 0, 1) := by decide +kernel
set_option maxRecDepth 20000 in
theorem dX15_serve__2 : decode cX15_serve_ 2 = .ok (.putfield 73, 3) := by decide +kernel
set_option maxRecDepth 20000 in
theorem dX15_serve__5 : decode cX15_serve_ 5 = .ok (.aload_n 0, 1) := by decide +kernel
set_option maxRecDepth 20000 in
theorem dX15_serve__6 : decode cX15_serve_ 6 = .ok (.iload_n 1, 1) := by decide +kernel
set_option maxRecDepth 20000 in
theorem dX15_serve__7 : decode cX15_serve_ 7 = .ok (.invokevirtual 435, 3) := by decide +kernel
set_option maxRecDepth 20000 in
theorem dX15_serve__10 : decode cX15_serve_ 10 = .ok (.ifCond .eq 17, 3) := by decide +kernel
set_option maxRecDepth 20000 in
theorem dX15_serve__13 : decode cX15_serve_ 13 = .ok (.aload_n 0, 1) := by decide +kernel
set_option maxRecDepth 20000 in
theorem dX15_serve__14 : decode cX15_serve_ 14 = .ok (.getfield 432, 3) := by decide +kernel
set_option maxRecDepth 20000 in
theorem dX15_serve__17 : decode cX15_serve_ 17 = .ok (.iconst 1, 1) := by decide +kernel
set_option maxRecDepth 20000 in
theorem dX15_serve__18 : decode cX15_serve_ 18 = .ok (.sipush 253, 3) := by decide +kernel
set_option maxRecDepth 20000 in
theorem dX15_serve__21 : decode cX15_serve_ 21 = .ok (.invokestatic 81, 3) := by decide +kernel
set_option maxRecDepth 20000 in
theorem dX15_serve__24 : decode cX15_serve_ 24 = .ok (.ifCond .ne 5, 3) := by decide +kernel
set_option maxRecDepth 20000 in
theorem dX15_serve__27 : decode cX15_serve_ 27 = .ok (.iconst (-1), 1) := by decide +kernel
set_option maxRecDepth 20000 in
theorem dX15_serve__28 : decode cX15_serve_ 28 = .ok (.ireturn, 1) := by decide +kernel
set_option maxRecDepth 20000 in
theorem dX15_serve__29 : decode cX15_serve_ 29 = .ok (.aload_n 0, 1) := by decide +kernel
set_option maxRecDepth 20000 in
theorem dX15_serve__30 : decode cX15_serve_ 30 = .ok (.aload_n 0, 1) := by decide +kernel
set_option maxRecDepth 20000 in
theorem dX15_serve__31 : decode cX15_serve_ 31 = .ok (.getfield 9, 3) := by decide +kernel
set_option maxRecDepth 20000 in
theorem dX15_serve__34 : decode cX15_serve_ 34 = .ok (.iload_n 1, 1) := by decide +kernel
set_option maxRecDepth 20000 in
theorem dX15_serve__35 : decode cX15_serve_ 35 = .ok (.aaload, 1) := by decide +kernel
set_option maxRecDepth 20000 in
theorem dX15_serve__36 : decode cX15_serve_ 36 = .ok (.aload_n 0, 1) := by decide +kernel
set_option maxRecDepth 20000 in
theorem dX15_serve__37 : decode cX15_serve_ 37 = .ok (.getfield 66, 3) := by decide +kernel
set_option maxRecDepth 20000 in
theorem dX15_serve__40 : decode cX15_serve_ 40 = .ok (.aload_n 0, 1) := by decide +kernel
set_option maxRecDepth 20000 in
theorem dX15_serve__41 : decode cX15_serve_ 41 = .ok (.getfield 432, 3) := by decide +kernel
set_option maxRecDepth 20000 in
theorem dX15_serve__44 : decode cX15_serve_ 44 = .ok (.invokevirtual 254, 3) := by decide +kernel
set_option maxRecDepth 20000 in
theorem dX15_serve__47 : decode cX15_serve_ 47 = .ok (.aload_n 0, 1) := by decide +kernel
set_option maxRecDepth 20000 in
theorem dX15_serve__48 : decode cX15_serve_ 48 = .ok (.iconst 0, 1) := by decide +kernel
set_option maxRecDepth 20000 in
theorem dX15_serve__49 : decode cX15_serve_ 49 = .ok (.putfield 432, 3) := by decide +kernel
set_option maxRecDepth 20000 in
theorem dX15_serve__52 : decode cX15_serve_ 52 = .ok (.aload_n 0, 1) := by decide +kernel
set_option maxRecDepth 20000 in
theorem dX15_serve__53 : decode cX15_serve_ 53 = .ok (.aload_n 0, 1) := by decide +kernel
set_option maxRecDepth 20000 in
theorem dX15_serve__54 : decode cX15_serve_ 54 = .ok (.getfield 89, 3) := by decide +kernel
set_option maxRecDepth 20000 in
theorem dX15_serve__57 : decode cX15_serve_ 57 = .ok (.putfield 474, 3) := by decide +kernel
set_option maxRecDepth 20000 in
theorem dX15_serve__60 : decode cX15_serve_ 60 = .ok (.iconst 0, 1) := by decide +kernel
set_option maxRecDepth 20000 in
theorem dX15_serve__61 : decode cX15_serve_ 61 = .ok (.istore_n 2, 1) := by decide +kernel
set_option maxRecDepth 20000 in
theorem dX15_serve__62 : decode cX15_serve_ 62 = .ok (.iload_n 2, 1) := by decide +kernel
set_option maxRecDepth 20000 in
theorem dX15_serve__63 : decode cX15_serve_ 63 = .ok (.aload_n 0, 1) := by decide +kernel
set_option maxRecDepth 20000 in
theorem dX15_serve__64 : decode cX15_serve_ 64 = .ok (.getfield 89, 3) := by decide +kernel
set_option maxRecDepth 20000 in
theorem dX15_serve__67 : decode cX15_serve_ 67 = .ok (.if_icmp .ge 21, 3) := by decide +kernel
set_option maxRecDepth 20000 in
theorem dX15_serve__70 : decode cX15_serve_ 70 = .ok (.aload_n 0, 1) := by decide +kernel
set_option maxRecDepth 20000 in
theorem dX15_serve__71 : decode cX15_serve_ 71 = .ok (.getfield 69, 3) := by decide +kernel
set_option maxRecDepth 20000 in
theorem dX15_serve__74 : decode cX15_serve_ 74 = .ok (.iload_n 2, 1) := by decide +kernel
set_option maxRecDepth 20000 in
theorem dX15_serve__75 : decode cX15_serve_ 75 = .ok (.aload_n 0, 1) := by decide +kernel
set_option maxRecDepth 20000 in
theorem dX15_serve__76 : decode cX15_serve_ 76 = .ok (.getfield 15, 3) := by decide +kernel
set_option maxRecDepth 20000 in
theorem dX15_serve__79 : decode cX15_serve_ 79 = .ok (.iload_n 2, 1) := by decide +kernel
set_option maxRecDepth 20000 in
theorem dX15_serve__80 : decode cX15_serve_ 80 = .ok (.iaload, 1) := by decide +kernel
set_option maxRecDepth 20000 in
theorem dX15_serve__81 : decode cX15_serve_ 81 = .ok (.iastore, 1) := by decide +kernel
set_option maxRecDepth 20000 in
theorem dX15_serve__82 : decode cX15_serve_ 82 = .ok (.iinc 2 1, 3) := by decide +kernel
set_option maxRecDepth 20000 in
theorem dX15_serve__85 : decode cX15_serve_ 85 = .ok (.goto (-23), 3) := by decide +kernel
set_option maxRecDepth 20000 in
theorem dX15_serve__88 : decode cX15_serve_ 88 = .ok (.aload_n 0, 1) := by decide +kernel
set_option maxRecDepth 20000 in
theorem dX15_serve__89 : decode cX15_serve_ 89 = .ok (.getfield 474, 3) := by decide +kernel
set_option maxRecDepth 20000 in
theorem dX15_serve__92 : decode cX15_serve_ 92 = .ok (.ireturn, 1) := by decide +kernel
set_option maxRecDepth 20000 in
theorem dX15_answer_0 : decode cX15_answer 0 = .ok (.aload_n 0, 1) := by decide +kernel
set_option maxRecDepth 20000 in
theorem dX15_answer_1 : decode cX15_answer 1 = .ok (.iconst 0, 1) := by decide +kernel
set_option maxRecDepth 20000 in
theorem dX15_answer_2 : decode cX15_answer 2 = .ok (.putfield 73, 3) := by decide +kernel
set_option maxRecDepth 20000 in
theorem dX15_answer_5 : decode cX15_answer 5 = .ok (.iload_n 1, 1) := by decide +kernel
set_option maxRecDepth 20000 in
theorem dX15_answer_6 : decode cX15_answer 6 = .ok (.iconst 0, 1) := by decide +kernel
set_option maxRecDepth 20000 in
theorem dX15_answer_7 : decode cX15_answer 7 = .ok (.aload_n 0, 1) := by decide +kernel
set_option maxRecDepth 20000 in
theorem dX15_answer_8 : decode cX15_answer 8 = .ok (.getfield 474, 3) := by decide +kernel
set_option maxRecDepth 20000 in
theorem dX15_answer_11 : decode cX15_answer 11 = .ok (.iconst 1, 1) := by decide +kernel
set_option maxRecDepth 20000 in
theorem dX15_answer_12 : decode cX15_answer 12 = .ok (.isub, 1) := by decide +kernel
set_option maxRecDepth 20000 in
theorem dX15_answer_13 : decode cX15_answer 13 = .ok (.invokestatic 81, 3) := by decide +kernel
set_option maxRecDepth 20000 in
theorem dX15_answer_16 : decode cX15_answer 16 = .ok (.ifCond .eq 12, 3) := by decide +kernel
set_option maxRecDepth 20000 in
theorem dX15_answer_19 : decode cX15_answer 19 = .ok (.aload_n 0, 1) := by decide +kernel
set_option maxRecDepth 20000 in
theorem dX15_answer_20 : decode cX15_answer 20 = .ok (.getfield 69, 3) := by decide +kernel
set_option maxRecDepth 20000 in
theorem dX15_answer_23 : decode cX15_answer 23 = .ok (.iload_n 1, 1) := by decide +kernel
set_option maxRecDepth 20000 in
theorem dX15_answer_24 : decode cX15_answer 24 = .ok (.iaload, 1) := by decide +kernel
set_option maxRecDepth 20000 in
theorem dX15_answer_25 : decode cX15_answer 25 = .ok (.goto 4, 3) := by decide +kernel
set_option maxRecDepth 20000 in
theorem dX15_answer_28 : decode cX15_answer 28 = .ok (.iconst (-1), 1) := by decide +kernel
set_option maxRecDepth 20000 in
theorem dX15_answer_29 : decode cX15_answer 29 = .ok (.ireturn, 1) := by decide +kernel
set_option maxRecDepth 20000 in
theorem dX15_settings_0 : decode cX15_settings 0 = .ok (.aload_n 0, 1) := by decide +kernel
set_option maxRecDepth 20000 in
theorem dX15_settings_1 : decode cX15_settings 1 = .ok (.iconst 0, 1) := by decide +kernel
set_option maxRecDepth 20000 in
theorem dX15_settings_2 : decode cX15_settings 2 = .ok (.putfield 73, 3) := by decide +kernel
set_option maxRecDepth 20000 in
theorem dX15_settings_5 : decode cX15_settings 5 = .ok (.iload_n 1, 1) := by decide +kernel
set_option maxRecDepth 20000 in
theorem dX15_settings_6 : decode cX15_settings 6 = .ok (.iconst 1, 1) := by decide +kernel
set_option maxRecDepth 20000 in
theorem dX15_settings_7 : decode cX15_settings 7 = .ok (.bipush 9, 2) := by decide +kernel
set_option maxRecDepth 20000 in
theorem dX15_settings_9 : decode cX15_settings 9 = .ok (.invokestatic 81, 3) := by decide +kernel
set_option maxRecDepth 20000 in
theorem dX15_settings_12 : decode cX15_settings 12 = .ok (.ifCond .eq 26, 3) := by decide +kernel
set_option maxRecDepth 20000 in
theorem dX15_settings_15 : decode cX15_settings 15 = .ok (.iload_n 2, 1) := by decide +kernel
set_option maxRecDepth 20000 in
theorem dX15_settings_16 : decode cX15_settings 16 = .ok (.bipush 20, 2) := by decide +kernel
set_option maxRecDepth 20000 in
theorem dX15_settings_18 : decode cX15_settings 18 = .ok (.sipush 5000, 3) := by decide +kernel
set_option maxRecDepth 20000 in
theorem dX15_settings_21 : decode cX15_settings 21 = .ok (.invokestatic 81, 3) := by decide +kernel
set_option maxRecDepth 20000 in
theorem dX15_settings_24 : decode cX15_settings 24 = .ok (.ifCond .eq 14, 3) := by decide +kernel
set_option maxRecDepth 20000 in
theorem dX15_settings_27 : decode cX15_settings 27 = .ok (.iload_n 3, 1) := by decide +kernel
set_option maxRecDepth 20000 in
theorem dX15_settings_28 : decode cX15_settings 28 = .ok (.iconst 0, 1) := by decide +kernel
set_option maxRecDepth 20000 in
theorem dX15_settings_29 : decode cX15_settings 29 = .ok (.sipush 2000, 3) := by decide +kernel
set_option maxRecDepth 20000 in
theorem dX15_settings_32 : decode cX15_settings 32 = .ok (.invokestatic 81, 3) := by decide +kernel
set_option maxRecDepth 20000 in
theorem dX15_settings_35 : decode cX15_settings 35 = .ok (.ifCond .ne 5, 3) := by decide +kernel
set_option maxRecDepth 20000 in
theorem dX15_settings_38 : decode cX15_settings 38 = .ok (.iconst 0, 1) := by decide +kernel
set_option maxRecDepth 20000 in
theorem dX15_settings_39 : decode cX15_settings 39 = .ok (.ireturn, 1) := by decide +kernel
set_option maxRecDepth 20000 in
theorem dX15_settings_40 : decode cX15_settings 40 = .ok (.aload_n 0, 1) := by decide +kernel
set_option maxRecDepth 20000 in
theorem dX15_settings_41 : decode cX15_settings 41 = .ok (.iload_n 1, 1) := by decide +kernel
set_option maxRecDepth 20000 in
theorem dX15_settings_42 : decode cX15_settings 42 = .ok (.putfield 29, 3) := by decide +kernel
set_option maxRecDepth 20000 in
theorem dX15_settings_45 : decode cX15_settings 45 = .ok (.aload_n 0, 1) := by decide +kernel
set_option maxRecDepth 20000 in
theorem dX15_settings_46 : decode cX15_settings 46 = .ok (.iload_n 2, 1) := by decide +kernel
set_option maxRecDepth 20000 in
theorem dX15_settings_47 : decode cX15_settings 47 = .ok (.putfield 33, 3) := by decide +kernel
set_option maxRecDepth 20000 in
theorem dX15_settings_50 : decode cX15_settings 50 = .ok (.aload_n 0, 1) := by decide +kernel
set_option maxRecDepth 20000 in
theorem dX15_settings_51 : decode cX15_settings 51 = .ok (.iload_n 3, 1) := by decide +kernel
set_option maxRecDepth 20000 in
theorem dX15_settings_52 : decode cX15_settings 52 = .ok (.putfield 36, 3) := by decide +kernel
set_option maxRecDepth 20000 in
theorem dX15_settings_55 : decode cX15_settings 55 = .ok (.iconst 1, 1) := by decide +kernel
set_option maxRecDepth 20000 in
theorem dX15_settings_56 : decode cX15_settings 56 = .ok (.ireturn, 1) := by decide +kernel
set_option maxRecDepth 20000 in
theorem dX15_request_0 : decode cX15_request 0 = .ok (.aload_n 0, 1) := by decide +kernel
set_option maxRecDepth 20000 in
theorem dX15_request_1 : decode cX15_request 1 = .ok (.iconst 0, 1) := by decide +kernel
set_option maxRecDepth 20000 in
theorem dX15_request_2 : decode cX15_request 2 = .ok (.putfield 73, 3) := by decide +kernel
set_option maxRecDepth 20000 in
theorem dX15_request_5 : decode cX15_request 5 = .ok (.iload_n 1, 1) := by decide +kernel
set_option maxRecDepth 20000 in
theorem dX15_request_6 : decode cX15_request 6 = .ok (.iconst 0, 1) := by decide +kernel
set_option maxRecDepth 20000 in
theorem dX15_request_7 : decode cX15_request 7 = .ok (.sipush 247, 3) := by decide +kernel
set_option maxRecDepth 20000 in
theorem dX15_request_10 : decode cX15_request 10 = .ok (.invokestatic 81, 3) := by decide +kernel
set_option maxRecDepth 20000 in
theorem dX15_request_13 : decode cX15_request 13 = .ok (.ifCond .eq 29, 3) := by decide +kernel
set_option maxRecDepth 20000 in
theorem dX15_request_16 : decode cX15_request 16 = .ok (.aload_n 0, 1) := by decide +kernel
set_option maxRecDepth 20000 in
theorem dX15_request_17 : decode cX15_request 17 = .ok (.getfield 432, 3) := by decide +kernel
set_option maxRecDepth 20000 in
theorem dX15_request_20 : decode cX15_request 20 = .ok (.iconst 1, 1) := by decide +kernel
set_option maxRecDepth 20000 in
theorem dX15_request_21 : decode cX15_request 21 = .ok (.sipush 253, 3) := by decide +kernel
set_option maxRecDepth 20000 in
theorem dX15_request_24 : decode cX15_request 24 = .ok (.invokestatic 81, 3) := by decide +kernel
set_option maxRecDepth 20000 in
theorem dX15_request_27 : decode cX15_request 27 = .ok (.ifCond .eq 15, 3) := by decide +kernel
set_option maxRecDepth 20000 in
theorem dX15_request_30 : decode cX15_request 30 = .ok (.aload_n 0, 1) := by decide +kernel
set_option maxRecDepth 20000 in
theorem dX15_request_31 : decode cX15_request 31 = .ok (.getfield 44, 3) := by decide +kernel
set_option maxRecDepth 20000 in
theorem dX15_request_34 : decode cX15_request 34 = .ok (.getfield 298, 3) := by decide +kernel
set_option maxRecDepth 20000 in
theorem dX15_request_37 : decode cX15_request 37 = .ok (.bipush 16, 2) := by decide +kernel
set_option maxRecDepth 20000 in
theorem dX15_request_39 : decode cX15_request 39 = .ok (.if_icmp .ne 5, 3) := by decide +kernel
set_option maxRecDepth 20000 in
theorem dX15_request_42 : decode cX15_request 42 = .ok (.iconst (-1), 1) := by decide +kernel
set_option maxRecDepth 20000 in
theorem dX15_request_43 : decode cX15_request 43 = .ok (.ireturn, 1) := by decide +kernel
set_option maxRecDepth 20000 in
theorem dX15_request_44 : decode cX15_request 44 = .ok (.aload_n 0, 1) := by decide +kernel
set_option maxRecDepth 20000 in
theorem dX15_request_45 : decode cX15_request 45 = .ok (.iload_n 1, 1) := by decide +kernel
set_option maxRecDepth 20000 in
theorem dX15_request_46 : decode cX15_request 46 = .ok (.aload_n 0, 1) := by decide +kernel
set_option maxRecDepth 20000 in
theorem dX15_request_47 : decode cX15_request 47 = .ok (.getfield 66, 3) := by decide +kernel
set_option maxRecDepth 20000 in
theorem dX15_request_50 : decode cX15_request 50 = .ok (.aload_n 0, 1) := by decide +kernel
set_option maxRecDepth 20000 in
theorem dX15_request_51 : decode cX15_request 51 = .ok (.getfield 432, 3) := by decide +kernel
set_option maxRecDepth 20000 in
theorem dX15_request_54 : decode cX15_request 54 = .ok (.invokevirtual 368, 3) := by decide +kernel
set_option maxRecDepth 20000 in
theorem dX15_request_57 : decode cX15_request 57 = .ok (.istore_n 2, 1) := by decide +kernel
set_option maxRecDepth 20000 in
theorem dX15_request_58 : decode cX15_request 58 = .ok (.aload_n 0, 1) := by decide +kernel
set_option maxRecDepth 20000 in
theorem dX15_request_59 : decode cX15_request 59 = .ok (.iconst 0, 1) := by decide +kernel
set_option maxRecDepth 20000 in
theorem dX15_request_60 : decode cX15_request 60 = .ok (.putfield 432, 3) := by decide +kernel
set_option maxRecDepth 20000 in
theorem dX15_request_63 : decode cX15_request 63 = .ok (.iload_n 2, 1) := by decide +kernel
set_option maxRecDepth 20000 in
theorem dX15_request_64 : decode cX15_request 64 = .ok (.ireturn, 1) := by decide +kernel
set_option maxRecDepth 20000 in
theorem dX15_scan__0 : decode cX15_scan_ 0 = .ok (.aload_n 0, 1) := by decide +kernel
set_option maxRecDepth 20000 in
theorem dX15_scan__1 : decode cX15_scan_ 1 = .ok (.iconst 0, 1) := by decide +kernel
set_option maxRecDepth 20000 in
theorem dX15_scan__2 : decode cX15_scan_ 2 = .ok (.putfield 73, 3) := by decide +kernel
set_option maxRecDepth 20000 in
theorem dX15_scan__5 : decode cX15_scan_ 5 = .ok (.iload_n 1, 1) := by decide +kernel
set_option maxRecDepth 20000 in
theorem dX15_scan__6 : decode cX15_scan_ 6 = .ok (.bipush 50, 2) := by decide +kernel
set_option maxRecDepth 20000 in
theorem dX15_scan__8 : decode cX15_scan_ 8 = .ok (.sipush 30000, 3) := by decide +kernel
set_option maxRecDepth 20000 in
theorem dX15_scan__11 : decode cX15_scan_ 11 = .ok (.invokestatic 81, 3) := by decide +kernel
set_option maxRecDepth 20000 in
theorem dX15_scan__14 : decode cX15_scan_ 14 = .ok (.ifCond .eq 40, 3) := by decide +kernel
set_option maxRecDepth 20000 in
theorem dX15_scan__17 : decode cX15_scan_ 17 = .ok (.iload_n 2, 1) := by decide +kernel
set_option maxRecDepth 20000 in
theorem dX15_scan__18 : decode cX15_scan_ 18 = .ok (.iconst 0, 1) := by decide +kernel
set_option maxRecDepth 20000 in
theorem dX15_scan__19 : decode cX15_scan_ 19 = .ok (.sipush 247, 3) := by decide +kernel
set_option maxRecDepth 20000 in
theorem dX15_scan__22 : decode cX15_scan_ 22 = .ok (.invokestatic 81, 3) := by decide +kernel
set_option maxRecDepth 20000 in
theorem dX15_scan__25 : decode cX15_scan_ 25 = .ok (.ifCond .eq 29, 3) := by decide +kernel
set_option maxRecDepth 20000 in
theorem dX15_scan__28 : decode cX15_scan_ 28 = .ok (.aload_n 0, 1) := by decide +kernel
set_option maxRecDepth 20000 in
theorem dX15_scan__29 : decode cX15_scan_ 29 = .ok (.getfield 432, 3) := by decide +kernel
set_option maxRecDepth 20000 in
theorem dX15_scan__32 : decode cX15_scan_ 32 = .ok (.iconst 1, 1) := by decide +kernel
set_option maxRecDepth 20000 in
theorem dX15_scan__33 : decode cX15_scan_ 33 = .ok (.sipush 253, 3) := by decide +kernel
set_option maxRecDepth 20000 in
theorem dX15_scan__36 : decode cX15_scan_ 36 = .ok (.invokestatic 81, 3) := by decide +kernel
set_option maxRecDepth 20000 in
theorem dX15_scan__39 : decode cX15_scan_ 39 = .ok (.ifCond .eq 15, 3) := by decide +kernel
set_option maxRecDepth 20000 in
theorem dX15_scan__42 : decode cX15_scan_ 42 = .ok (.aload_n 0, 1) := by decide +kernel
set_option maxRecDepth 20000 in
theorem dX15_scan__43 : decode cX15_scan_ 43 = .ok (.getfield 51, 3) := by decide +kernel
set_option maxRecDepth 20000 in
theorem dX15_scan__46 : decode cX15_scan_ 46 = .ok (.getfield 298, 3) := by decide +kernel
set_option maxRecDepth 20000 in
theorem dX15_scan__49 : decode cX15_scan_ 49 = .ok (.bipush 8, 2) := by decide +kernel
set_option maxRecDepth 20000 in
theorem dX15_scan__51 : decode cX15_scan_ 51 = .ok (.if_icmp .ne 5, 3) := by decide +kernel
set_option maxRecDepth 20000 in
theorem dX15_scan__54 : decode cX15_scan_ 54 = .ok (.iconst (-1), 1) := by decide +kernel
set_option maxRecDepth 20000 in
theorem dX15_scan__55 : decode cX15_scan_ 55 = .ok (.ireturn, 1) := by decide +kernel
set_option maxRecDepth 20000 in
theorem dX15_scan__56 : decode cX15_scan_ 56 = .ok (.aload_n 0, 1) := by decide +kernel
set_option maxRecDepth 20000 in
theorem dX15_scan__57 : decode cX15_scan_ 57 = .ok (.getfield 51, 3) := by decide +kernel
set_option maxRecDepth 20000 in
theorem dX15_scan__60 : decode cX15_scan_ 60 = .ok (.aload_n 0, 1) := by decide +kernel
set_option maxRecDepth 20000 in
theorem dX15_scan__61 : decode cX15_scan_ 61 = .ok (.getfield 66, 3) := by decide +kernel
set_option maxRecDepth 20000 in
theorem dX15_scan__64 : decode cX15_scan_ 64 = .ok (.iconst 0, 1) := by decide +kernel
set_option maxRecDepth 20000 in
theorem dX15_scan__65 : decode cX15_scan_ 65 = .ok (.aload_n 0, 1) := by decide +kernel
set_option maxRecDepth 20000 in
theorem dX15_scan__66 : decode cX15_scan_ 66 = .ok (.getfield 432, 3) := by decide +kernel
set_option maxRecDepth 20000 in
theorem dX15_scan__69 : decode cX15_scan_ 69 = .ok (.invokevirtual 288, 3) := by decide +kernel
set_option maxRecDepth 20000 in
theorem dX15_scan__72 : decode cX15_scan_ 72 = .ok (.istore_n 3, 1) := by decide +kernel
set_option maxRecDepth 20000 in
theorem dX15_scan__73 : decode cX15_scan_ 73 = .ok (.aload_n 0, 1) := by decide +kernel
set_option maxRecDepth 20000 in
theorem dX15_scan__74 : decode cX15_scan_ 74 = .ok (.getfield 51, 3) := by decide +kernel
set_option maxRecDepth 20000 in
theorem dX15_scan__77 : decode cX15_scan_ 77 = .ok (.getfield 292, 3) := by decide +kernel
set_option maxRecDepth 20000 in
theorem dX15_scan__80 : decode cX15_scan_ 80 = .ok (.iload_n 3, 1) := by decide +kernel
set_option maxRecDepth 20000 in
theorem dX15_scan__81 : decode cX15_scan_ 81 = .ok (.aaload, 1) := by decide +kernel
set_option maxRecDepth 20000 in
theorem dX15_scan__82 : decode cX15_scan_ 82 = .ok (.iconst 0, 1) := by decide +kernel
set_option maxRecDepth 20000 in
theorem dX15_scan__83 : decode cX15_scan_ 83 = .ok (.iload_n 2, 1) := by decide +kernel
set_option maxRecDepth 20000 in
theorem dX15_scan__84 : decode cX15_scan_ 84 = .ok (.iastore, 1) := by decide +kernel
set_option maxRecDepth 20000 in
theorem dX15_scan__85 : decode cX15_scan_ 85 = .ok (.aload_n 0, 1) := by decide +kernel
set_option maxRecDepth 20000 in
theorem dX15_scan__86 : decode cX15_scan_ 86 = .ok (.getfield 51, 3) := by decide +kernel
set_option maxRecDepth 20000 in
theorem dX15_scan__89 : decode cX15_scan_ 89 = .ok (.getfield 292, 3) := by decide +kernel
set_option maxRecDepth 20000 in
theorem dX15_scan__92 : decode cX15_scan_ 92 = .ok (.iload_n 3, 1) := by decide +kernel
set_option maxRecDepth 20000 in
theorem dX15_scan__93 : decode cX15_scan_ 93 = .ok (.aaload, 1) := by decide +kernel
set_option maxRecDepth 20000 in
theorem dX15_scan__94 : decode cX15_scan_ 94 = .ok (.iconst 1, 1) := by decide +kernel
set_option maxRecDepth 20000 in
theorem dX15_scan__95 : decode cX15_scan_ 95 = .ok (.iload_n 1, 1) := by decide +kernel
set_option maxRecDepth 20000 in
theorem dX15_scan__96 : decode cX15_scan_ 96 = .ok (.iastore, 1) := by decide +kernel
set_option maxRecDepth 20000 in
theorem dX15_scan__97 : decode cX15_scan_ 97 = .ok (.aload_n 0, 1) := by decide +kernel
set_option maxRecDepth 20000 in
theorem dX15_scan__98 : decode cX15_scan_ 98 = .ok (.getfield 51, 3) := by decide +kernel
set_option maxRecDepth 20000 in
theorem dX15_scan__101 : decode cX15_scan_ 101 = .ok (.getfield 292, 3) := by decide +kernel
set_option maxRecDepth 20000 in
theorem dX15_scan__104 : decode cX15_scan_ 104 = .ok (.iload_n 3, 1) := by decide +kernel
set_option maxRecDepth 20000 in
theorem dX15_scan__105 : decode cX15_scan_ 105 = .ok (.aaload, 1) := by decide +kernel
set_option maxRecDepth 20000 in
theorem dX15_scan__106 : decode cX15_scan_ 106 = .ok (.iconst 2, 1) := by decide +kernel
set_option maxRecDepth 20000 in
theorem dX15_scan__107 : decode cX15_scan_ 107 = .ok (.aload_n 0, 1) := by decide +kernel
set_option maxRecDepth 20000 in
theorem dX15_scan__108 : decode cX15_scan_ 108 = .ok (.getfield 362, 3) := by decide +kernel
set_option maxRecDepth 20000 in
theorem dX15_scan__111 : decode cX15_scan_ 111 = .ok (.iload_n 1, 1) := by decide +kernel
set_option maxRecDepth 20000 in
theorem dX15_scan__112 : decode cX15_scan_ 112 = .ok (.iadd, 1) := by decide +kernel
set_option maxRecDepth 20000 in
theorem dX15_scan__113 : decode cX15_scan_ 113 = .ok (.iastore, 1) := by decide +kernel
set_option maxRecDepth 20000 in
theorem dX15_scan__114 : decode cX15_scan_ 114 = .ok (.aload_n 0, 1) := by decide +kernel
set_option maxRecDepth 20000 in
theorem dX15_scan__115 : decode cX15_scan_ 115 = .ok (.getfield 51, 3) := by decide +kernel
set_option maxRecDepth 20000 in
theorem dX15_scan__118 : decode cX15_scan_ 118 = .ok (.getfield 292, 3) := by decide +kernel
set_option maxRecDepth 20000 in
theorem dX15_scan__121 : decode cX15_scan_ 121 = .ok (.iload_n 3, 1) := by decide +kernel
set_option maxRecDepth 20000 in
theorem dX15_scan__122 : decode cX15_scan_ 122 = .ok (.aaload, 1) := by decide +kernel
set_option maxRecDepth 20000 in
theorem dX15_scan__123 : decode cX15_scan_ 123 = .ok (.iconst 3, 1) := by decide +kernel
set_option maxRecDepth 20000 in
theorem dX15_scan__124 : decode cX15_scan_ 124 = .ok (.iconst (-1), 1) := by decide +kernel
set_option maxRecDepth 20000 in
theorem dX15_scan__125 : decode cX15_scan_ 125 = .ok (.iastore, 1) := by decide +kernel
set_option maxRecDepth 20000 in
theorem dX15_scan__126 : decode cX15_scan_ 126 = .ok (.aload_n 0, 1) := by decide +kernel
set_option maxRecDepth 20000 in
theorem dX15_scan__127 : decode cX15_scan_ 127 = .ok (.iconst 0, 1) := by decide +kernel
set_option maxRecDepth 20000 in
theorem dX15_scan__128 : decode cX15_scan_ 128 = .ok (.putfield 432, 3) := by decide +kernel
set_option maxRecDepth 20000 in
theorem dX15_scan__131 : decode cX15_scan_ 131 = .ok (.iload_n 3, 1) := by decide +kernel
set_option maxRecDepth 20000 in
theorem dX15_scan__132 : decode cX15_scan_ 132 = .ok (.ireturn, 1) := by decide +kernel
set_option maxRecDepth 20000 in
theorem dX15_harm_0 : decode cX15_harm 0 = .ok (.aload_n 0, 1) := by decide +kernel
set_option maxRecDepth 20000 in
theorem dX15_harm_1 : decode cX15_harm 1 = .ok (.iconst 0, 1) := by decide +kernel
set_option maxRecDepth 20000 in
theorem dX15_harm_2 : decode cX15_harm 2 = .ok (.putfield 73, 3) := by decide +kernel
set_option maxRecDepth 20000 in
theorem dX15_harm_5 : decode cX15_harm 5 = .ok (.iload_n 1, 1) := by decide +kernel
set_option maxRecDepth 20000 in
theorem dX15_harm_6 : decode cX15_harm 6 = .ok (.iconst 0, 1) := by decide +kernel
set_option maxRecDepth 20000 in
theorem dX15_harm_7 : decode cX15_harm 7 = .ok (.sipush 2000, 3) := by decide +kernel
set_option maxRecDepth 20000 in
theorem dX15_harm_10 : decode cX15_harm 10 = .ok (.invokestatic 81, 3) := by decide +kernel
set_option maxRecDepth 20000 in
theorem dX15_harm_13 : decode cX15_harm 13 = .ok (.ifCond .eq 14, 3) := by decide +kernel
set_option maxRecDepth 20000 in
theorem dX15_harm_16 : decode cX15_harm 16 = .ok (.iload_n 2, 1) := by decide +kernel
set_option maxRecDepth 20000 in
theorem dX15_harm_17 : decode cX15_harm 17 = .ok (.iconst 1, 1) := by decide +kernel
set_option maxRecDepth 20000 in
theorem dX15_harm_18 : decode cX15_harm 18 = .ok (.sipush 340, 3) := by decide +kernel
set_option maxRecDepth 20000 in
theorem dX15_harm_21 : decode cX15_harm 21 = .ok (.invokestatic 81, 3) := by decide +kernel
set_option maxRecDepth 20000 in
theorem dX15_harm_24 : decode cX15_harm 24 = .ok (.ifCond .ne 5, 3) := by decide +kernel
set_option maxRecDepth 20000 in
theorem dX15_harm_27 : decode cX15_harm 27 = .ok (.iconst 0, 1) := by decide +kernel
set_option maxRecDepth 20000 in
theorem dX15_harm_28 : decode cX15_harm 28 = .ok (.ireturn, 1) := by decide +kernel
set_option maxRecDepth 20000 in
theorem dX15_harm_29 : decode cX15_harm 29 = .ok (.aload_n 0, 1) := by decide +kernel
set_option maxRecDepth 20000 in
theorem dX15_harm_30 : decode cX15_harm 30 = .ok (.getfield 375, 3) := by decide +kernel
set_option maxRecDepth 20000 in
theorem dX15_harm_33 : decode cX15_harm 33 = .ok (.iload_n 1, 1) := by decide +kernel
set_option maxRecDepth 20000 in
theorem dX15_harm_34 : decode cX15_harm 34 = .ok (.iadd, 1) := by decide +kernel
set_option maxRecDepth 20000 in
theorem dX15_harm_35 : decode cX15_harm 35 = .ok (.istore_n 3, 1) := by decide +kernel
set_option maxRecDepth 20000 in
theorem dX15_harm_36 : decode cX15_harm 36 = .ok (.iconst 0, 1) := by decide +kernel
set_option maxRecDepth 20000 in
theorem dX15_harm_37 : decode cX15_harm 37 = .ok (.istore 4, 2) := by decide +kernel
set_option maxRecDepth 20000 in
theorem dX15_harm_39 : decode cX15_harm 39 = .ok (.iload 4, 2) := by decide +kernel
set_option maxRecDepth 20000 in
theorem dX15_harm_41 : decode cX15_harm 41 = .ok (.aload_n 0, 1) := by decide +kernel
set_option maxRecDepth 20000 in
theorem dX15_harm_42 : decode cX15_harm 42 = .ok (.getfield 372, 3) := by decide +kernel
set_option maxRecDepth 20000 in
theorem dX15_harm_45 : decode cX15_harm 45 = .ok (.if_icmp .ge 33, 3) := by decide +kernel
set_option maxRecDepth 20000 in
theorem dX15_harm_48 : decode cX15_harm 48 = .ok (.aload_n 0, 1) := by decide +kernel
set_option maxRecDepth 20000 in
theorem dX15_harm_49 : decode cX15_harm 49 = .ok (.getfield 60, 3) := by decide +kernel
set_option maxRecDepth 20000 in
theorem dX15_harm_52 : decode cX15_harm 52 = .ok (.iload 4, 2) := by decide +kernel
set_option maxRecDepth 20000 in
theorem dX15_harm_54 : decode cX15_harm 54 = .ok (.iaload, 1) := by decide +kernel
set_option maxRecDepth 20000 in
theorem dX15_harm_55 : decode cX15_harm 55 = .ok (.iload_n 3, 1) := by decide +kernel
set_option maxRecDepth 20000 in
theorem dX15_harm_56 : decode cX15_harm 56 = .ok (.if_icmp .eq 6, 3) := by decide +kernel
set_option maxRecDepth 20000 in
theorem dX15_harm_59 : decode cX15_harm 59 = .ok (.goto 13, 3) := by decide +kernel
set_option maxRecDepth 20000 in
theorem dX15_harm_62 : decode cX15_harm 62 = .ok (.aload_n 0, 1) := by decide +kernel
set_option maxRecDepth 20000 in
theorem dX15_harm_63 : decode cX15_harm 63 = .ok (.getfield 63, 3) := by decide +kernel
set_option maxRecDepth 20000 in
theorem dX15_harm_66 : decode cX15_harm 66 = .ok (.iload 4, 2) := by decide +kernel
set_option maxRecDepth 20000 in
theorem dX15_harm_68 : decode cX15_harm 68 = .ok (.iload_n 2, 1) := by decide +kernel
set_option maxRecDepth 20000 in
theorem dX15_harm_69 : decode cX15_harm 69 = .ok (.iastore, 1) := by decide +kernel
set_option maxRecDepth 20000 in
theorem dX15_harm_70 : decode cX15_harm 70 = .ok (.iconst 1, 1) := by decide +kernel
set_option maxRecDepth 20000 in
theorem dX15_harm_71 : decode cX15_harm 71 = .ok (.ireturn, 1) := by decide +kernel
set_option maxRecDepth 20000 in
theorem dX15_harm_72 : decode cX15_harm 72 = .ok (.iinc 4 1, 3) := by decide +kernel
set_option maxRecDepth 20000 in
theorem dX15_harm_75 : decode cX15_harm 75 = .ok (.goto (-36), 3) := by decide +kernel
set_option maxRecDepth 20000 in
theorem dX15_harm_78 : decode cX15_harm 78 = .ok (.aload_n 0, 1) := by decide +kernel
set_option maxRecDepth 20000 in
theorem dX15_harm_79 : decode cX15_harm 79 = .ok (.getfield 372, 3) := by decide +kernel
set_option maxRecDepth 20000 in
theorem dX15_harm_82 : decode cX15_harm 82 = .ok (.bipush 64, 2) := by decide +kernel
set_option maxRecDepth 20000 in
theorem dX15_harm_84 : decode cX15_harm 84 = .ok (.if_icmp .ne 5, 3) := by decide +kernel
set_option maxRecDepth 20000 in
theorem dX15_harm_87 : decode cX15_harm 87 = .ok (.iconst 0, 1) := by decide +kernel
set_option maxRecDepth 20000 in
theorem dX15_harm_88 : decode cX15_harm 88 = .ok (.ireturn, 1) := by decide +kernel
set_option maxRecDepth 20000 in
theorem dX15_harm_89 : decode cX15_harm 89 = .ok (.aload_n 0, 1) := by decide +kernel
set_option maxRecDepth 20000 in
theorem dX15_harm_90 : decode cX15_harm 90 = .ok (.getfield 60, 3) := by decide +kernel
set_option maxRecDepth 20000 in
theorem dX15_harm_93 : decode cX15_harm 93 = .ok (.aload_n 0, 1) := by decide +kernel
set_option maxRecDepth 20000 in
theorem dX15_harm_94 : decode cX15_harm 94 = .ok (.getfield 372, 3) := by decide +kernel
set_option maxRecDepth 20000 in
theorem dX15_harm_97 : decode cX15_harm 97 = .ok (.iload_n 3, 1) := by decide +kernel
set_option maxRecDepth 20000 in
theorem dX15_harm_98 : decode cX15_harm 98 = .ok (.iastore, 1) := by decide +kernel
set_option maxRecDepth 20000 in
theorem dX15_harm_99 : decode cX15_harm 99 = .ok (.aload_n 0, 1) := by decide +kernel
set_option maxRecDepth 20000 in
theorem dX15_harm_100 : decode cX15_harm 100 = .ok (.getfield 63, 3) := by decide +kernel
set_option maxRecDepth 20000 in
theorem dX15_harm_103 : decode cX15_harm 103 = .ok (.aload_n 0, 1) := by decide +kernel
set_option maxRecDepth 20000 in
theorem dX15_harm_104 : decode cX15_harm 104 = .ok (.getfield 372, 3) := by decide +kernel
set_option maxRecDepth 20000 in
theorem dX15_harm_107 : decode cX15_harm 107 = .ok (.iload_n 2, 1) := by decide +kernel
set_option maxRecDepth 20000 in
theorem dX15_harm_108 : decode cX15_harm 108 = .ok (.iastore, 1) := by decide +kernel
set_option maxRecDepth 20000 in
theorem dX15_harm_109 : decode cX15_harm 109 = .ok (.aload_n 0, 1) := by decide +kernel
set_option maxRecDepth 20000 in
theorem dX15_harm_110 : decode cX15_harm 110 = .ok (.dup, 1) := by decide +kernel
set_option maxRecDepth 20000 in
theorem dX15_harm_111 : decode cX15_harm 111 = .ok (.getfield 372, 3) := by decide +kernel
set_option maxRecDepth 20000 in
theorem dX15_harm_114 : decode cX15_harm 114 = .ok (.iconst 1, 1) := by decide +kernel
set_option maxRecDepth 20000 in
theorem dX15_harm_115 : decode cX15_harm 115 = .ok (.iadd, 1) := by decide +kernel
set_option maxRecDepth 20000 in
theorem dX15_harm_116 : decode cX15_harm 116 = .ok (.putfield 372, 3) := by decide +kernel
set_option maxRecDepth 20000 in
theorem dX15_harm_119 : decode cX15_harm 119 = .ok (.iconst 1, 1) := by decide +kernel
set_option maxRecDepth 20000 in
theorem dX15_harm_120 : decode cX15_harm 120 = .ok (.ireturn, 1) := by decide +kernel
set_option maxRecDepth 20000 in
theorem dX15_tick_0 : decode cX15_tick 0 = .ok (.aload_n 0, 1) := by decide +kernel
set_option maxRecDepth 20000 in
theorem dX15_tick_1 : decode cX15_tick 1 = .ok (.iload_n 1, 1) := by decide +kernel
set_option maxRecDepth 20000 in
theorem dX15_tick_2 : decode cX15_tick 2 = .ok (.iconst 1, 1) := by decide +kernel
set_option maxRecDepth 20000 in
theorem dX15_tick_3 : decode cX15_tick 3 = .ok (.sipush 1000, 3) := by decide +kernel
set_option maxRecDepth 20000 in
theorem dX15_tick_6 : decode cX15_tick 6 = .ok (.invokestatic 81, 3) := by decide +kernel
set_option maxRecDepth 20000 in
theorem dX15_tick_9 : decode cX15_tick 9 = .ok (.ifCond .eq 7, 3) := by decide +kernel
set_option maxRecDepth 20000 in
theorem dX15_tick_12 : decode cX15_tick 12 = .ok (.iconst 0, 1) := by decide +kernel
set_option maxRecDepth 20000 in
theorem dX15_tick_13 : decode cX15_tick 13 = .ok (.goto 4, 3) := by decide +kernel
set_option maxRecDepth 20000 in
theorem dX15_tick_16 : decode cX15_tick 16 = .ok (.iconst 1, 1) := by decide +kernel
set_option maxRecDepth 20000 in
theorem dX15_tick_17 : decode cX15_tick 17 = .ok (.putfield 73, 3) := by decide +kernel
set_option maxRecDepth 20000 in
theorem dX15_tick_20 : decode cX15_tick 20 = .ok (.aload_n 0, 1) := by decide +kernel
set_option maxRecDepth 20000 in
theorem dX15_tick_21 : decode cX15_tick 21 = .ok (.getfield 73, 3) := by decide +kernel
set_option maxRecDepth 20000 in
theorem dX15_tick_24 : decode cX15_tick 24 = .ok (.ifCond .le 5, 3) := by decide +kernel
set_option maxRecDepth 20000 in
theorem dX15_tick_27 : decode cX15_tick 27 = .ok (.iconst 0, 1) := by decide +kernel
set_option maxRecDepth 20000 in
theorem dX15_tick_28 : decode cX15_tick 28 = .ok (.ireturn, 1) := by decide +kernel
set_option maxRecDepth 20000 in
theorem dX15_tick_29 : decode cX15_tick 29 = .ok (.aload_n 0, 1) := by decide +kernel
set_option maxRecDepth 20000 in
theorem dX15_tick_30 : decode cX15_tick 30 = .ok (.getfield 394, 3) := by decide +kernel
set_option maxRecDepth 20000 in
theorem dX15_tick_33 : decode cX15_tick 33 = .ok (.istore_n 2, 1) := by decide +kernel
set_option maxRecDepth 20000 in
theorem dX15_tick_34 : decode cX15_tick 34 = .ok (.iconst 0, 1) := by decide +kernel
set_option maxRecDepth 20000 in
theorem dX15_tick_35 : decode cX15_tick 35 = .ok (.istore_n 3, 1) := by decide +kernel
set_option maxRecDepth 20000 in
theorem dX15_tick_36 : decode cX15_tick 36 = .ok (.iload_n 3, 1) := by decide +kernel
set_option maxRecDepth 20000 in
theorem dX15_tick_37 : decode cX15_tick 37 = .ok (.iload_n 1, 1) := by decide +kernel
set_option maxRecDepth 20000 in
theorem dX15_tick_38 : decode cX15_tick 38 = .ok (.if_icmp .ge 13, 3) := by decide +kernel
set_option maxRecDepth 20000 in
theorem dX15_tick_41 : decode cX15_tick 41 = .ok (.aload_n 0, 1) := by decide +kernel
set_option maxRecDepth 20000 in
theorem dX15_tick_42 : decode cX15_tick 42 = .ok (.invokevirtual 477, 3) := by decide +kernel
set_option maxRecDepth 20000 in
theorem dX15_tick_45 : decode cX15_tick 45 = .ok (.iinc 3 1, 3) := by decide +kernel
set_option maxRecDepth 20000 in
theorem dX15_tick_48 : decode cX15_tick 48 = .ok (.goto (-12), 3) := by decide +kernel
set_option maxRecDepth 20000 in
theorem dX15_tick_51 : decode cX15_tick 51 = .ok (.aload_n 0, 1) := by decide +kernel
set_option maxRecDepth 20000 in
theorem dX15_tick_52 : decode cX15_tick 52 = .ok (.getfield 394, 3) := by decide +kernel
set_option maxRecDepth 20000 in
theorem dX15_tick_55 : decode cX15_tick 55 = .ok (.iload_n 2, 1) := by decide +kernel
set_option maxRecDepth 20000 in
theorem dX15_tick_56 : decode cX15_tick 56 = .ok (.isub, 1) := by decide +kernel
set_option maxRecDepth 20000 in
theorem dX15_tick_57 : decode cX15_tick 57 = .ok (.ireturn, 1) := by decide +kernel
set_option maxRecDepth 20000 in
theorem dX15_result_0 : decode cX15_result 0 = .ok (.aload_n 0, 1) := by decide +kernel
set_option maxRecDepth 20000 in
theorem dX15_result_1 : decode cX15_result 1 = .ok (.iconst 0, 1) := by decide +kernel
set_option maxRecDepth 20000 in
theorem dX15_result_2 : decode cX15_result 2 = .ok (.putfield 73, 3) := by decide +kernel
set_option maxRecDepth 20000 in
theorem dX15_result_5 : decode cX15_result 5 = .ok (.aload_n 0, 1) := by decide +kernel
set_option maxRecDepth 20000 in
theorem dX15_result_6 : decode cX15_result 6 = .ok (.getfield 48, 3) := by decide +kernel
set_option maxRecDepth 20000 in
theorem dX15_result_9 : decode cX15_result 9 = .ok (.getfield 298, 3) := by decide +kernel
set_option maxRecDepth 20000 in
theorem dX15_result_12 : decode cX15_result 12 = .ok (.ifCond .eq 12, 3) := by decide +kernel
set_option maxRecDepth 20000 in
theorem dX15_result_15 : decode cX15_result 15 = .ok (.iload_n 1, 1) := by decide +kernel
set_option maxRecDepth 20000 in
theorem dX15_result_16 : decode cX15_result 16 = .ok (.iconst 0, 1) := by decide +kernel
set_option maxRecDepth 20000 in
theorem dX15_result_17 : decode cX15_result 17 = .ok (.iconst 5, 1) := by decide +kernel
set_option maxRecDepth 20000 in
theorem dX15_result_18 : decode cX15_result 18 = .ok (.invokestatic 81, 3) := by decide +kernel
set_option maxRecDepth 20000 in
theorem dX15_result_21 : decode cX15_result 21 = .ok (.ifCond .ne 5, 3) := by decide +kernel
set_option maxRecDepth 20000 in
theorem dX15_result_24 : decode cX15_result 24 = .ok (.iconst (-1), 1) := by decide +kernel
set_option maxRecDepth 20000 in
theorem dX15_result_25 : decode cX15_result 25 = .ok (.ireturn, 1) := by decide +kernel
set_option maxRecDepth 20000 in
theorem dX15_result_26 : decode cX15_result 26 = .ok (.aload_n 0, 1) := by decide +kernel
set_option maxRecDepth 20000 in
theorem dX15_result_27 : decode cX15_result 27 = .ok (.getfield 48, 3) := by decide +kernel
set_option maxRecDepth 20000 in
theorem dX15_result_30 : decode cX15_result 30 = .ok (.getfield 292, 3) := by decide +kernel
set_option maxRecDepth 20000 in
theorem dX15_result_33 : decode cX15_result 33 = .ok (.iconst 0, 1) := by decide +kernel
set_option maxRecDepth 20000 in
theorem dX15_result_34 : decode cX15_result 34 = .ok (.aaload, 1) := by decide +kernel
set_option maxRecDepth 20000 in
theorem dX15_result_35 : decode cX15_result 35 = .ok (.astore_n 2, 1) := by decide +kernel
set_option maxRecDepth 20000 in
theorem dX15_result_36 : decode cX15_result 36 = .ok (.iload_n 1, 1) := by decide +kernel
set_option maxRecDepth 20000 in
theorem dX15_result_37 : decode cX15_result 37 = .ok (.iconst 4, 1) := by decide +kernel
set_option maxRecDepth 20000 in
theorem dX15_result_38 : decode cX15_result 38 = .ok (.if_icmp .ge 9, 3) := by decide +kernel
set_option maxRecDepth 20000 in
theorem dX15_result_41 : decode cX15_result 41 = .ok (.aload_n 2, 1) := by decide +kernel
set_option maxRecDepth 20000 in
theorem dX15_result_42 : decode cX15_result 42 = .ok (.iload_n 1, 1) := by decide +kernel
set_option maxRecDepth 20000 in
theorem dX15_result_43 : decode cX15_result 43 = .ok (.iaload, 1) := by decide +kernel
set_option maxRecDepth 20000 in
theorem dX15_result_44 : decode cX15_result 44 = .ok (.goto 23, 3) := by decide +kernel
set_option maxRecDepth 20000 in
theorem dX15_result_47 : decode cX15_result 47 = .ok (.iload_n 1, 1) := by decide +kernel
set_option maxRecDepth 20000 in
theorem dX15_result_48 : decode cX15_result 48 = .ok (.iconst 4, 1) := by decide +kernel
set_option maxRecDepth 20000 in
theorem dX15_result_49 : decode cX15_result 49 = .ok (.if_icmp .ne 15, 3) := by decide +kernel
set_option maxRecDepth 20000 in
theorem dX15_result_52 : decode cX15_result 52 = .ok (.aload_n 0, 1) := by decide +kernel
set_option maxRecDepth 20000 in
theorem dX15_result_53 : decode cX15_result 53 = .ok (.getfield 48, 3) := by decide +kernel
set_option maxRecDepth 20000 in
theorem dX15_result_56 : decode cX15_result 56 = .ok (.getfield 323, 3) := by decide +kernel
set_option maxRecDepth 20000 in
theorem dX15_result_59 : decode cX15_result 59 = .ok (.iconst 0, 1) := by decide +kernel
set_option maxRecDepth 20000 in
theorem dX15_result_60 : decode cX15_result 60 = .ok (.iaload, 1) := by decide +kernel
set_option maxRecDepth 20000 in
theorem dX15_result_61 : decode cX15_result 61 = .ok (.goto 6, 3) := by decide +kernel
set_option maxRecDepth 20000 in
theorem dX15_result_64 : decode cX15_result 64 = .ok (.aload_n 2, 1) := by decide +kernel
set_option maxRecDepth 20000 in
theorem dX15_result_65 : decode cX15_result 65 = .ok (.iconst 4, 1) := by decide +kernel
set_option maxRecDepth 20000 in
theorem dX15_result_66 : decode cX15_result 66 = .ok (.iaload, 1) := by decide +kernel
set_option maxRecDepth 20000 in
theorem dX15_result_67 : decode cX15_result 67 = .ok (.ireturn, 1) := by decide +kernel
set_option maxRecDepth 20000 in
theorem dX15_data_0 : decode cX15_data 0 = .ok (.aload_n 0, 1) := by decide +kernel
set_option maxRecDepth 20000 in
theorem dX15_data_1 : decode cX15_data 1 = .ok (.aload_n 0, 1) := by decide +kernel
set_option maxRecDepth 20000 in
theorem dX15_data_2 : decode cX15_data 2 = .ok (.getfield 48, 3) := by decide +kernel
set_option maxRecDepth 20000 in
theorem dX15_data_5 : decode cX15_data 5 = .ok (.getfield 298, 3) := by decide +kernel
set_option maxRecDepth 20000 in
theorem dX15_data_8 : decode cX15_data 8 = .ok (.ifCond .le 26, 3) := by decide +kernel
set_option maxRecDepth 20000 in
theorem dX15_data_11 : decode cX15_data 11 = .ok (.iload_n 1, 1) := by decide +kernel
set_option maxRecDepth 20000 in
theorem dX15_data_12 : decode cX15_data 12 = .ok (.iconst 0, 1) := by decide +kernel
set_option maxRecDepth 20000 in
theorem dX15_data_13 : decode cX15_data 13 = .ok (.aload_n 0, 1) := by decide +kernel
set_option maxRecDepth 20000 in
theorem dX15_data_14 : decode cX15_data 14 = .ok (.getfield 48, 3) := by decide +kernel
set_option maxRecDepth 20000 in
theorem dX15_data_17 : decode cX15_data 17 = .ok (.getfield 323, 3) := by decide +kernel
set_option maxRecDepth 20000 in
theorem dX15_data_20 : decode cX15_data 20 = .ok (.iconst 0, 1) := by decide +kernel
set_option maxRecDepth 20000 in
theorem dX15_data_21 : decode cX15_data 21 = .ok (.iaload, 1) := by decide +kernel
set_option maxRecDepth 20000 in
theorem dX15_data_22 : decode cX15_data 22 = .ok (.iconst 1, 1) := by decide +kernel
set_option maxRecDepth 20000 in
theorem dX15_data_23 : decode cX15_data 23 = .ok (.isub, 1) := by decide +kernel
set_option maxRecDepth 20000 in
theorem dX15_data_24 : decode cX15_data 24 = .ok (.invokestatic 81, 3) := by decide +kernel
set_option maxRecDepth 20000 in
theorem dX15_data_27 : decode cX15_data 27 = .ok (.ifCond .eq 7, 3) := by decide +kernel
set_option maxRecDepth 20000 in
theorem dX15_data_30 : decode cX15_data 30 = .ok (.iconst 0, 1) := by decide +kernel
set_option maxRecDepth 20000 in
theorem dX15_data_31 : decode cX15_data 31 = .ok (.goto 4, 3) := by decide +kernel
set_option maxRecDepth 20000 in
theorem dX15_data_34 : decode cX15_data 34 = .ok (.iconst 1, 1) := by decide +kernel
set_option maxRecDepth 20000 in
theorem dX15_data_35 : decode cX15_data 35 = .ok (.putfield 73, 3) := by decide +kernel
set_option maxRecDepth 20000 in
theorem dX15_data_38 : decode cX15_data 38 = .ok (.aload_n 0, 1) := by decide +kernel
set_option maxRecDepth 20000 in
theorem dX15_data_39 : decode cX15_data 39 = .ok (.getfield 73, 3) := by decide +kernel
set_option maxRecDepth 20000 in
theorem dX15_data_42 : decode cX15_data 42 = .ok (.ifCond .le 7, 3) := by decide +kernel
set_option maxRecDepth 20000 in
theorem dX15_data_45 : decode cX15_data 45 = .ok (.iconst 0, 1) := by decide +kernel
set_option maxRecDepth 20000 in
theorem dX15_data_46 : decode cX15_data 46 = .ok (.goto 14, 3) := by decide +kernel
set_option maxRecDepth 20000 in
theorem dX15_data_49 : decode cX15_data 49 = .ok (.aload_n 0, 1) := by decide +kernel
set_option maxRecDepth 20000 in
theorem dX15_data_50 : decode cX15_data 50 = .ok (.getfield 48, 3) := by decide +kernel
set_option maxRecDepth 20000 in
theorem dX15_data_53 : decode cX15_data 53 = .ok (.getfield 321, 3) := by decide +kernel
set_option maxRecDepth 20000 in
theorem dX15_data_56 : decode cX15_data 56 = .ok (.iconst 0, 1) := by decide +kernel
set_option maxRecDepth 20000 in
theorem dX15_data_57 : decode cX15_data 57 = .ok (.aaload, 1) := by decide +kernel
set_option maxRecDepth 20000 in
theorem dX15_data_58 : decode cX15_data 58 = .ok (.iload_n 1, 1) := by decide +kernel
set_option maxRecDepth 20000 in
theorem dX15_data_59 : decode cX15_data 59 = .ok (.iaload, 1) := by decide +kernel
set_option maxRecDepth 20000 in
theorem dX15_data_60 : decode cX15_data 60 = .ok (.ireturn, 1) := by decide +kernel
set_option maxRecDepth 20000 in
theorem dX15_take_0 : decode cX15_take 0 = .ok (.aload_n 0, 1) := by decide +kernel
set_option maxRecDepth 20000 in
theorem dX15_take_1 : decode cX15_take 1 = .ok (.iconst 0, 1) := by decide +kernel
set_option maxRecDepth 20000 in
theorem dX15_take_2 : decode cX15_take 2 = .ok (.putfield 73, 3) := by decide +kernel
set_option maxRecDepth 20000 in
theorem dX15_take_5 : decode cX15_take 5 = .ok (.aload_n 0, 1) := by decide +kernel
set_option maxRecDepth 20000 in
theorem dX15_take_6 : decode cX15_take 6 = .ok (.getfield 48, 3) := by decide +kernel
set_option maxRecDepth 20000 in
theorem dX15_take_9 : decode cX15_take 9 = .ok (.getfield 298, 3) := by decide +kernel
set_option maxRecDepth 20000 in
theorem dX15_take_12 : decode cX15_take 12 = .ok (.ifCond .ne 5, 3) := by decide +kernel
set_option maxRecDepth 20000 in
theorem dX15_take_15 : decode cX15_take 15 = .ok (.iconst 0, 1) := by decide +kernel
set_option maxRecDepth 20000 in
theorem dX15_take_16 : decode cX15_take 16 = .ok (.ireturn, 1) := by decide +kernel
set_option maxRecDepth 20000 in
theorem dX15_take_17 : decode cX15_take 17 = .ok (.aload_n 0, 1) := by decide +kernel
set_option maxRecDepth 20000 in
theorem dX15_take_18 : decode cX15_take 18 = .ok (.getfield 48, 3) := by decide +kernel
set_option maxRecDepth 20000 in
theorem dX15_take_21 : decode cX15_take 21 = .ok (.invokevirtual 303, 3) := by decide +kernel
set_option maxRecDepth 20000 in
theorem dX15_take_24 : decode cX15_take 24 = .ok (.iconst 1, 1) := by decide +kernel
set_option maxRecDepth 20000 in
theorem dX15_take_25 : decode cX15_take 25 = .ok (.ireturn, 1) := by decide +kernel
set_option maxRecDepth 20000 in
theorem dX15_state_0 : decode cX15_state 0 = .ok (.aload_n 0, 1) := by decide +kernel
set_option maxRecDepth 20000 in
theorem dX15_state_1 : decode cX15_state 1 = .ok (.iconst 0, 1) := by decide +kernel
set_option maxRecDepth 20000 in
theorem dX15_state_2 : decode cX15_state 2 = .ok (.putfield 73, 3) := by decide +kernel
set_option maxRecDepth 20000 in
theorem dX15_state_5 : decode cX15_state 5 = .ok (.iload_n 1, 1) := by decide +kernel
set_option maxRecDepth 20000 in
theorem dX15_state_6 : decode cX15_state 6 = .ok (.tableswitch 215 0 16 #[82, 87, 92, 103, 108, 125, 133, 159, 167, 172, 177, 182, 187, 192, 200, 205, 210], 82) := by decide +kernel
set_option maxRecDepth 20000 in
theorem dX15_state_88 : decode cX15_state 88 = .ok (.aload_n 0, 1) := by decide +kernel
set_option maxRecDepth 20000 in
theorem dX15_state_89 : decode cX15_state 89 = .ok (.getfield 362, 3) := by decide +kernel
set_option maxRecDepth 20000 in
theorem dX15_state_92 : decode cX15_state 92 = .ok (.ireturn, 1) := by decide +kernel
set_option maxRecDepth 20000 in
theorem dX15_state_93 : decode cX15_state 93 = .ok (.aload_n 0, 1) := by decide +kernel
set_option maxRecDepth 20000 in
theorem dX15_state_94 : decode cX15_state 94 = .ok (.getfield 340, 3) := by decide +kernel
set_option maxRecDepth 20000 in
theorem dX15_state_97 : decode cX15_state 97 = .ok (.ireturn, 1) := by decide +kernel
set_option maxRecDepth 20000 in
theorem dX15_state_98 : decode cX15_state 98 = .ok (.aload_n 0, 1) := by decide +kernel
set_option maxRecDepth 20000 in
theorem dX15_state_99 : decode cX15_state 99 = .ok (.getfield 54, 3) := by decide +kernel
set_option maxRecDepth 20000 in
theorem dX15_state_102 : decode cX15_state 102 = .ok (.sipush 1000, 3) := by decide +kernel
set_option maxRecDepth 20000 in
theorem dX15_state_105 : decode cX15_state 105 = .ok (.invokestatic 282, 3) := by decide +kernel
set_option maxRecDepth 20000 in
theorem dX15_state_108 : decode cX15_state 108 = .ok (.ireturn, 1) := by decide +kernel
set_option maxRecDepth 20000 in
theorem dX15_state_109 : decode cX15_state 109 = .ok (.aload_n 0, 1) := by decide +kernel
set_option maxRecDepth 20000 in
theorem dX15_state_110 : decode cX15_state 110 = .ok (.getfield 306, 3) := by decide +kernel
set_option maxRecDepth 20000 in
theorem dX15_state_113 : decode cX15_state 113 = .ok (.ireturn, 1) := by decide +kernel
set_option maxRecDepth 20000 in
theorem dX15_state_114 : decode cX15_state 114 = .ok (.aload_n 0, 1) := by decide +kernel
set_option maxRecDepth 20000 in
theorem dX15_state_115 : decode cX15_state 115 = .ok (.getfield 306, 3) := by decide +kernel
set_option maxRecDepth 20000 in
theorem dX15_state_118 : decode cX15_state 118 = .ok (.iconst 2, 1) := by decide +kernel
set_option maxRecDepth 20000 in
theorem dX15_state_119 : decode cX15_state 119 = .ok (.if_icmp .ne 10, 3) := by decide +kernel
set_option maxRecDepth 20000 in
theorem dX15_state_122 : decode cX15_state 122 = .ok (.aload_n 0, 1) := by decide +kernel
set_option maxRecDepth 20000 in
theorem dX15_state_123 : decode cX15_state 123 = .ok (.getfield 400, 3) := by decide +kernel
set_option maxRecDepth 20000 in
theorem dX15_state_126 : decode cX15_state 126 = .ok (.goto 4, 3) := by decide +kernel
set_option maxRecDepth 20000 in
theorem dX15_state_129 : decode cX15_state 129 = .ok (.iconst 0, 1) := by decide +kernel
set_option maxRecDepth 20000 in
theorem dX15_state_130 : decode cX15_state 130 = .ok (.ireturn, 1) := by decide +kernel
set_option maxRecDepth 20000 in
theorem dX15_state_131 : decode cX15_state 131 = .ok (.aload_n 0, 1) := by decide +kernel
set_option maxRecDepth 20000 in
theorem dX15_state_132 : decode cX15_state 132 = .ok (.getfield 44, 3) := by decide +kernel
set_option maxRecDepth 20000 in
theorem dX15_state_135 : decode cX15_state 135 = .ok (.getfield 298, 3) := by decide +kernel
set_option maxRecDepth 20000 in
theorem dX15_state_138 : decode cX15_state 138 = .ok (.ireturn, 1) := by decide +kernel
set_option maxRecDepth 20000 in
theorem dX15_state_139 : decode cX15_state 139 = .ok (.aload_n 0, 1) := by decide +kernel
set_option maxRecDepth 20000 in
theorem dX15_state_140 : decode cX15_state 140 = .ok (.getfield 44, 3) := by decide +kernel
set_option maxRecDepth 20000 in
theorem dX15_state_143 : decode cX15_state 143 = .ok (.getfield 298, 3) := by decide +kernel
set_option maxRecDepth 20000 in
theorem dX15_state_146 : decode cX15_state 146 = .ok (.ifCond .le 17, 3) := by decide +kernel
set_option maxRecDepth 20000 in
theorem dX15_state_149 : decode cX15_state 149 = .ok (.aload_n 0, 1) := by decide +kernel
set_option maxRecDepth 20000 in
theorem dX15_state_150 : decode cX15_state 150 = .ok (.getfield 44, 3) := by decide +kernel
set_option maxRecDepth 20000 in
theorem dX15_state_153 : decode cX15_state 153 = .ok (.getfield 292, 3) := by decide +kernel
set_option maxRecDepth 20000 in
theorem dX15_state_156 : decode cX15_state 156 = .ok (.iconst 0, 1) := by decide +kernel
set_option maxRecDepth 20000 in
theorem dX15_state_157 : decode cX15_state 157 = .ok (.aaload, 1) := by decide +kernel
set_option maxRecDepth 20000 in
theorem dX15_state_158 : decode cX15_state 158 = .ok (.iconst 2, 1) := by decide +kernel
set_option maxRecDepth 20000 in
theorem dX15_state_159 : decode cX15_state 159 = .ok (.iaload, 1) := by decide +kernel
set_option maxRecDepth 20000 in
theorem dX15_state_160 : decode cX15_state 160 = .ok (.goto 4, 3) := by decide +kernel
set_option maxRecDepth 20000 in
theorem dX15_state_163 : decode cX15_state 163 = .ok (.iconst 0, 1) := by decide +kernel
set_option maxRecDepth 20000 in
theorem dX15_state_164 : decode cX15_state 164 = .ok (.ireturn, 1) := by decide +kernel
set_option maxRecDepth 20000 in
theorem dX15_state_165 : decode cX15_state 165 = .ok (.aload_n 0, 1) := by decide +kernel
set_option maxRecDepth 20000 in
theorem dX15_state_166 : decode cX15_state 166 = .ok (.getfield 48, 3) := by decide +kernel
set_option maxRecDepth 20000 in
theorem dX15_state_169 : decode cX15_state 169 = .ok (.getfield 298, 3) := by decide +kernel
set_option maxRecDepth 20000 in
theorem dX15_state_172 : decode cX15_state 172 = .ok (.ireturn, 1) := by decide +kernel
set_option maxRecDepth 20000 in
theorem dX15_state_173 : decode cX15_state 173 = .ok (.aload_n 0, 1) := by decide +kernel
set_option maxRecDepth 20000 in
theorem dX15_state_174 : decode cX15_state 174 = .ok (.getfield 299, 3) := by decide +kernel
set_option maxRecDepth 20000 in
theorem dX15_state_177 : decode cX15_state 177 = .ok (.ireturn, 1) := by decide +kernel
set_option maxRecDepth 20000 in
theorem dX15_state_178 : decode cX15_state 178 = .ok (.aload_n 0, 1) := by decide +kernel
set_option maxRecDepth 20000 in
theorem dX15_state_179 : decode cX15_state 179 = .ok (.getfield 313, 3) := by decide +kernel
set_option maxRecDepth 20000 in
theorem dX15_state_182 : decode cX15_state 182 = .ok (.ireturn, 1) := by decide +kernel
set_option maxRecDepth 20000 in
theorem dX15_state_183 : decode cX15_state 183 = .ok (.aload_n 0, 1) := by decide +kernel
set_option maxRecDepth 20000 in
theorem dX15_state_184 : decode cX15_state 184 = .ok (.getfield 394, 3) := by decide +kernel
set_option maxRecDepth 20000 in
theorem dX15_state_187 : decode cX15_state 187 = .ok (.ireturn, 1) := by decide +kernel
set_option maxRecDepth 20000 in
theorem dX15_state_188 : decode cX15_state 188 = .ok (.aload_n 0, 1) := by decide +kernel
set_option maxRecDepth 20000 in
theorem dX15_state_189 : decode cX15_state 189 = .ok (.getfield 372, 3) := by decide +kernel
set_option maxRecDepth 20000 in
theorem dX15_state_192 : decode cX15_state 192 = .ok (.ireturn, 1) := by decide +kernel
set_option maxRecDepth 20000 in
theorem dX15_state_193 : decode cX15_state 193 = .ok (.aload_n 0, 1) := by decide +kernel
set_option maxRecDepth 20000 in
theorem dX15_state_194 : decode cX15_state 194 = .ok (.getfield 78, 3) := by decide +kernel
set_option maxRecDepth 20000 in
theorem dX15_state_197 : decode cX15_state 197 = .ok (.ireturn, 1) := by decide +kernel
set_option maxRecDepth 20000 in
theorem dX15_state_198 : decode cX15_state 198 = .ok (.aload_n 0, 1) := by decide +kernel
set_option maxRecDepth 20000 in
theorem dX15_state_199 : decode cX15_state 199 = .ok (.getfield 51, 3) := by decide +kernel
set_option maxRecDepth 20000 in
theorem dX15_state_202 : decode cX15_state 202 = .ok (.getfield 298, 3) := by decide +kernel
set_option maxRecDepth 20000 in
theorem dX15_state_205 : decode cX15_state 205 = .ok (.ireturn, 1) := by decide +kernel
set_option maxRecDepth 20000 in
theorem dX15_state_206 : decode cX15_state 206 = .ok (.aload_n 0, 1) := by decide +kernel
set_option maxRecDepth 20000 in
theorem dX15_state_207 : decode cX15_state 207 = .ok (.getfield 432, 3) := by decide +kernel
set_option maxRecDepth 20000 in
theorem dX15_state_210 : decode cX15_state 210 = .ok (.ireturn, 1) := by decide +kernel
set_option maxRecDepth 20000 in
theorem dX15_state_211 : decode cX15_state 211 = .ok (.aload_n 0, 1) := by decide +kernel
set_option maxRecDepth 20000 in
theorem dX15_state_212 : decode cX15_state 212 = .ok (.getfield 474, 3) := by decide +kernel
set_option maxRecDepth 20000 in
theorem dX15_state_215 : decode cX15_state 215 = .ok (.ireturn, 1) := by decide +kernel
set_option maxRecDepth 20000 in
theorem dX15_state_216 : decode cX15_state 216 = .ok (.aload_n 0, 1) := by decide +kernel
set_option maxRecDepth 20000 in
theorem dX15_state_217 : decode cX15_state 217 = .ok (.getfield 355, 3) := by decide +kernel
set_option maxRecDepth 20000 in
theorem dX15_state_220 : decode cX15_state 220 = .ok (.ireturn, 1) := by decide +kernel
set_option maxRecDepth 20000 in
theorem dX15_state_221 : decode cX15_state 221 = .ok (.iconst (-1), 1) := by decide +kernel
set_option maxRecDepth 20000 in
theorem dX15_state_222 : decode cX15_state 222 = .ok (.ireturn, 1) := by decide +kernel
set_option maxRecDepth 20000 in
theorem dX15_counter_0 : decode cX15_counter 0 = .ok (.aload_n 0, 1) := by decide +kernel
set_option maxRecDepth 20000 in
theorem dX15_counter_1 : decode cX15_counter 1 = .ok (.iconst 0, 1) := by decide +kernel
set_option maxRecDepth 20000 in
theorem dX15_counter_2 : decode cX15_counter 2 = .ok (.putfield 73, 3) := by decide +kernel
set_option maxRecDepth 20000 in
theorem dX15_counter_5 : decode cX15_counter 5 = .ok (.aload_n 0, 1) := by decide +kernel
set_option maxRecDepth 20000 in
theorem dX15_counter_6 : decode cX15_counter 6 = .ok (.iload_n 1, 1) := by decide +kernel
set_option maxRecDepth 20000 in
theorem dX15_counter_7 : decode cX15_counter 7 = .ok (.invokevirtual 435, 3) := by decide +kernel
set_option maxRecDepth 20000 in
theorem dX15_counter_10 : decode cX15_counter 10 = .ok (.ifCond .ne 5, 3) := by decide +kernel
set_option maxRecDepth 20000 in
theorem dX15_counter_13 : decode cX15_counter 13 = .ok (.iconst (-1), 1) := by decide +kernel
set_option maxRecDepth 20000 in
theorem dX15_counter_14 : decode cX15_counter 14 = .ok (.ireturn, 1) := by decide +kernel
set_option maxRecDepth 20000 in
theorem dX15_counter_15 : decode cX15_counter 15 = .ok (.aload_n 0, 1) := by decide +kernel
set_option maxRecDepth 20000 in
theorem dX15_counter_16 : decode cX15_counter 16 = .ok (.getfield 9, 3) := by decide +kernel
set_option maxRecDepth 20000 in
theorem dX15_counter_19 : decode cX15_counter 19 = .ok (.iload_n 1, 1) := by decide +kernel
set_option maxRecDepth 20000 in
theorem dX15_counter_20 : decode cX15_counter 20 = .ok (.aaload, 1) := by decide +kernel
set_option maxRecDepth 20000 in
theorem dX15_counter_21 : decode cX15_counter 21 = .ok (.astore_n 3, 1) := by decide +kernel
set_option maxRecDepth 20000 in
theorem dX15_counter_22 : decode cX15_counter 22 = .ok (.iload_n 2, 1) := by decide +kernel
set_option maxRecDepth 20000 in
theorem dX15_counter_23 : decode cX15_counter 23 = .ok (.iconst 0, 1) := by decide +kernel
set_option maxRecDepth 20000 in
theorem dX15_counter_24 : decode cX15_counter 24 = .ok (.bipush 8, 2) := by decide +kernel
set_option maxRecDepth 20000 in
theorem dX15_counter_26 : decode cX15_counter 26 = .ok (.invokestatic 81, 3) := by decide +kernel
set_option maxRecDepth 20000 in
theorem dX15_counter_29 : decode cX15_counter 29 = .ok (.ifCond .eq 10, 3) := by decide +kernel
set_option maxRecDepth 20000 in
theorem dX15_counter_32 : decode cX15_counter 32 = .ok (.aload_n 3, 1) := by decide +kernel
set_option maxRecDepth 20000 in
theorem dX15_counter_33 : decode cX15_counter 33 = .ok (.getfield 186, 3) := by decide +kernel
set_option maxRecDepth 20000 in
theorem dX15_counter_36 : decode cX15_counter 36 = .ok (.iload_n 2, 1) := by decide +kernel
set_option maxRecDepth 20000 in
theorem dX15_counter_37 : decode cX15_counter 37 = .ok (.iaload, 1) := by decide +kernel
set_option maxRecDepth 20000 in
theorem dX15_counter_38 : decode cX15_counter 38 = .ok (.ireturn, 1) := by decide +kernel
set_option maxRecDepth 20000 in
theorem dX15_counter_39 : decode cX15_counter 39 = .ok (.iload_n 2, 1) := by decide +kernel
set_option maxRecDepth 20000 in
theorem dX15_counter_40 : decode cX15_counter 40 = .ok (.tableswitch 128 9 16 #[48, 61, 66, 71, 89, 105, 110, 123], 48) := by decide +kernel
set_option maxRecDepth 20000 in
theorem dX15_counter_88 : decode cX15_counter 88 = .ok (.aload_n 3, 1) := by decide +kernel
set_option maxRecDepth 20000 in
theorem dX15_counter_89 : decode cX15_counter 89 = .ok (.getfield 211, 3) := by decide +kernel
set_option maxRecDepth 20000 in
theorem dX15_counter_92 : decode cX15_counter 92 = .ok (.ifCond .eq 7, 3) := by decide +kernel
set_option maxRecDepth 20000 in
theorem dX15_counter_95 : decode cX15_counter 95 = .ok (.iconst 1, 1) := by decide +kernel
set_option maxRecDepth 20000 in
theorem dX15_counter_96 : decode cX15_counter 96 = .ok (.goto 4, 3) := by decide +kernel
set_option maxRecDepth 20000 in
theorem dX15_counter_99 : decode cX15_counter 99 = .ok (.iconst 0, 1) := by decide +kernel
set_option maxRecDepth 20000 in
theorem dX15_counter_100 : decode cX15_counter 100 = .ok (.ireturn, 1) := by decide +kernel
set_option maxRecDepth 20000 in
theorem dX15_counter_101 : decode cX15_counter 101 = .ok (.aload_n 3, 1) := by decide +kernel
set_option maxRecDepth 20000 in
theorem dX15_counter_102 : decode cX15_counter 102 = .ok (.getfield 189, 3) := by decide +kernel
set_option maxRecDepth 20000 in
theorem dX15_counter_105 : decode cX15_counter 105 = .ok (.ireturn, 1) := by decide +kernel
set_option maxRecDepth 20000 in
theorem dX15_counter_106 : decode cX15_counter 106 = .ok (.aload_n 3, 1) := by decide +kernel
set_option maxRecDepth 20000 in
theorem dX15_counter_107 : decode cX15_counter 107 = .ok (.getfield 147, 3) := by decide +kernel
set_option maxRecDepth 20000 in
theorem dX15_counter_110 : decode cX15_counter 110 = .ok (.ireturn, 1) := by decide +kernel
set_option maxRecDepth 20000 in
theorem dX15_counter_111 : decode cX15_counter 111 = .ok (.aload_n 3, 1) := by decide +kernel
set_option maxRecDepth 20000 in
theorem dX15_counter_112 : decode cX15_counter 112 = .ok (.getfield 260, 3) := by decide +kernel
set_option maxRecDepth 20000 in
theorem dX15_counter_115 : decode cX15_counter 115 = .ok (.ifCond .le 12, 3) := by decide +kernel
set_option maxRecDepth 20000 in
theorem dX15_counter_118 : decode cX15_counter 118 = .ok (.aload_n 3, 1) := by decide +kernel
set_option maxRecDepth 20000 in
theorem dX15_counter_119 : decode cX15_counter 119 = .ok (.getfield 260, 3) := by decide +kernel
set_option maxRecDepth 20000 in
theorem dX15_counter_122 : decode cX15_counter 122 = .ok (.iconst 3, 1) := by decide +kernel
set_option maxRecDepth 20000 in
theorem dX15_counter_123 : decode cX15_counter 123 = .ok (.iadd, 1) := by decide +kernel
set_option maxRecDepth 20000 in
theorem dX15_counter_124 : decode cX15_counter 124 = .ok (.goto 4, 3) := by decide +kernel
set_option maxRecDepth 20000 in
theorem dX15_counter_127 : decode cX15_counter 127 = .ok (.iconst 0, 1) := by decide +kernel
set_option maxRecDepth 20000 in
theorem dX15_counter_128 : decode cX15_counter 128 = .ok (.ireturn, 1) := by decide +kernel
set_option maxRecDepth 20000 in
theorem dX15_counter_129 : decode cX15_counter 129 = .ok (.aload_n 3, 1) := by decide +kernel
set_option maxRecDepth 20000 in
theorem dX15_counter_130 : decode cX15_counter 130 = .ok (.getfield 260, 3) := by decide +kernel
set_option maxRecDepth 20000 in
theorem dX15_counter_133 : decode cX15_counter 133 = .ok (.ifCond .le 10, 3) := by decide +kernel
set_option maxRecDepth 20000 in
theorem dX15_counter_136 : decode cX15_counter 136 = .ok (.aload_n 3, 1) := by decide +kernel
set_option maxRecDepth 20000 in
theorem dX15_counter_137 : decode cX15_counter 137 = .ok (.getfield 266, 3) := by decide +kernel
set_option maxRecDepth 20000 in
theorem dX15_counter_140 : decode cX15_counter 140 = .ok (.goto 4, 3) := by decide +kernel
set_option maxRecDepth 20000 in
theorem dX15_counter_143 : decode cX15_counter 143 = .ok (.iconst 0, 1) := by decide +kernel
set_option maxRecDepth 20000 in
theorem dX15_counter_144 : decode cX15_counter 144 = .ok (.ireturn, 1) := by decide +kernel
set_option maxRecDepth 20000 in
theorem dX15_counter_145 : decode cX15_counter 145 = .ok (.aload_n 3, 1) := by decide +kernel
set_option maxRecDepth 20000 in
theorem dX15_counter_146 : decode cX15_counter 146 = .ok (.getfield 251, 3) := by decide +kernel
set_option maxRecDepth 20000 in
theorem dX15_counter_149 : decode cX15_counter 149 = .ok (.ireturn, 1) := by decide +kernel
set_option maxRecDepth 20000 in
theorem dX15_counter_150 : decode cX15_counter 150 = .ok (.aload_n 3, 1) := by decide +kernel
set_option maxRecDepth 20000 in
theorem dX15_counter_151 : decode cX15_counter 151 = .ok (.getfield 480, 3) := by decide +kernel
set_option maxRecDepth 20000 in
theorem dX15_counter_154 : decode cX15_counter 154 = .ok (.ifCond .eq 7, 3) := by decide +kernel
set_option maxRecDepth 20000 in
theorem dX15_counter_157 : decode cX15_counter 157 = .ok (.iconst 1, 1) := by decide +kernel
set_option maxRecDepth 20000 in
theorem dX15_counter_158 : decode cX15_counter 158 = .ok (.goto 4, 3) := by decide +kernel
set_option maxRecDepth 20000 in
theorem dX15_counter_161 : decode cX15_counter 161 = .ok (.iconst 0, 1) := by decide +kernel
set_option maxRecDepth 20000 in
theorem dX15_counter_162 : decode cX15_counter 162 = .ok (.ireturn, 1) := by decide +kernel
set_option maxRecDepth 20000 in
theorem dX15_counter_163 : decode cX15_counter 163 = .ok (.aload_n 3, 1) := by decide +kernel
set_option maxRecDepth 20000 in
theorem dX15_counter_164 : decode cX15_counter 164 = .ok (.getfield 248, 3) := by decide +kernel
set_option maxRecDepth 20000 in
theorem dX15_counter_167 : decode cX15_counter 167 = .ok (.ireturn, 1) := by decide +kernel
set_option maxRecDepth 20000 in
theorem dX15_counter_168 : decode cX15_counter 168 = .ok (.iconst (-1), 1) := by decide +kernel
set_option maxRecDepth 20000 in
theorem dX15_counter_169 : decode cX15_counter 169 = .ok (.ireturn, 1) := by decide +kernel
set_option maxRecDepth 20000 in
theorem dX15_event_0 : decode cX15_event 0 = .ok (.aload_n 0, 1) := by decide +kernel
set_option maxRecDepth 20000 in
theorem dX15_event_1 : decode cX15_event 1 = .ok (.iconst 0, 1) := by decide +kernel
set_option maxRecDepth 20000 in
theorem dX15_event_2 : decode cX15_event 2 = .ok (.putfield 73, 3) := by decide +kernel
set_option maxRecDepth 20000 in
theorem dX15_event_5 : decode cX15_event 5 = .ok (.aload_n 0, 1) := by decide +kernel
set_option maxRecDepth 20000 in
theorem dX15_event_6 : decode cX15_event 6 = .ok (.iload_n 1, 1) := by decide +kernel
set_option maxRecDepth 20000 in
theorem dX15_event_7 : decode cX15_event 7 = .ok (.invokevirtual 435, 3) := by decide +kernel
set_option maxRecDepth 20000 in
theorem dX15_event_10 : decode cX15_event 10 = .ok (.ifCond .eq 36, 3) := by decide +kernel
set_option maxRecDepth 20000 in
theorem dX15_event_13 : decode cX15_event 13 = .ok (.iload_n 2, 1) := by decide +kernel
set_option maxRecDepth 20000 in
theorem dX15_event_14 : decode cX15_event 14 = .ok (.iconst 0, 1) := by decide +kernel
set_option maxRecDepth 20000 in
theorem dX15_event_15 : decode cX15_event 15 = .ok (.aload_n 0, 1) := by decide +kernel
set_option maxRecDepth 20000 in
theorem dX15_event_16 : decode cX15_event 16 = .ok (.getfield 9, 3) := by decide +kernel
set_option maxRecDepth 20000 in
theorem dX15_event_19 : decode cX15_event 19 = .ok (.iload_n 1, 1) := by decide +kernel
set_option maxRecDepth 20000 in
theorem dX15_event_20 : decode cX15_event 20 = .ok (.aaload, 1) := by decide +kernel
set_option maxRecDepth 20000 in
theorem dX15_event_21 : decode cX15_event 21 = .ok (.getfield 189, 3) := by decide +kernel
set_option maxRecDepth 20000 in
theorem dX15_event_24 : decode cX15_event 24 = .ok (.iconst 1, 1) := by decide +kernel
set_option maxRecDepth 20000 in
theorem dX15_event_25 : decode cX15_event 25 = .ok (.isub, 1) := by decide +kernel
set_option maxRecDepth 20000 in
theorem dX15_event_26 : decode cX15_event 26 = .ok (.invokestatic 81, 3) := by decide +kernel
set_option maxRecDepth 20000 in
theorem dX15_event_29 : decode cX15_event 29 = .ok (.ifCond .eq 17, 3) := by decide +kernel
set_option maxRecDepth 20000 in
theorem dX15_event_32 : decode cX15_event 32 = .ok (.aload_n 0, 1) := by decide +kernel
set_option maxRecDepth 20000 in
theorem dX15_event_33 : decode cX15_event 33 = .ok (.getfield 9, 3) := by decide +kernel
set_option maxRecDepth 20000 in
theorem dX15_event_36 : decode cX15_event 36 = .ok (.iload_n 1, 1) := by decide +kernel
set_option maxRecDepth 20000 in
theorem dX15_event_37 : decode cX15_event 37 = .ok (.aaload, 1) := by decide +kernel
set_option maxRecDepth 20000 in
theorem dX15_event_38 : decode cX15_event 38 = .ok (.getfield 192, 3) := by decide +kernel
set_option maxRecDepth 20000 in
theorem dX15_event_41 : decode cX15_event 41 = .ok (.iload_n 2, 1) := by decide +kernel
set_option maxRecDepth 20000 in
theorem dX15_event_42 : decode cX15_event 42 = .ok (.iaload, 1) := by decide +kernel
set_option maxRecDepth 20000 in
theorem dX15_event_43 : decode cX15_event 43 = .ok (.goto 4, 3) := by decide +kernel
set_option maxRecDepth 20000 in
theorem dX15_event_46 : decode cX15_event 46 = .ok (.iconst (-1), 1) := by decide +kernel
set_option maxRecDepth 20000 in
theorem dX15_event_47 : decode cX15_event 47 = .ok (.ireturn, 1) := by decide +kernel
set_option maxRecDepth 20000 in
theorem dX15_sent_0 : decode cX15_sent 0 = .ok (.aload_n 0, 1) := by decide +kernel
set_option maxRecDepth 20000 in
theorem dX15_sent_1 : decode cX15_sent 1 = .ok (.iconst 0, 1) := by decide +kernel
set_option maxRecDepth 20000 in
theorem dX15_sent_2 : decode cX15_sent 2 = .ok (.putfield 73, 3) := by decide +kernel
set_option maxRecDepth 20000 in
theorem dX15_sent_5 : decode cX15_sent 5 = .ok (.iload_n 1, 1) := by decide +kernel
set_option maxRecDepth 20000 in
theorem dX15_sent_6 : decode cX15_sent 6 = .ok (.iconst 0, 1) := by decide +kernel
set_option maxRecDepth 20000 in
theorem dX15_sent_7 : decode cX15_sent 7 = .ok (.aload_n 0, 1) := by decide +kernel
set_option maxRecDepth 20000 in
theorem dX15_sent_8 : decode cX15_sent 8 = .ok (.getfield 346, 3) := by decide +kernel
set_option maxRecDepth 20000 in
theorem dX15_sent_11 : decode cX15_sent 11 = .ok (.iconst 1, 1) := by decide +kernel
set_option maxRecDepth 20000 in
theorem dX15_sent_12 : decode cX15_sent 12 = .ok (.isub, 1) := by decide +kernel
set_option maxRecDepth 20000 in
theorem dX15_sent_13 : decode cX15_sent 13 = .ok (.invokestatic 81, 3) := by decide +kernel
set_option maxRecDepth 20000 in
theorem dX15_sent_16 : decode cX15_sent 16 = .ok (.ifCond .eq 12, 3) := by decide +kernel
set_option maxRecDepth 20000 in
theorem dX15_sent_19 : decode cX15_sent 19 = .ok (.aload_n 0, 1) := by decide +kernel
set_option maxRecDepth 20000 in
theorem dX15_sent_20 : decode cX15_sent 20 = .ok (.getfield 57, 3) := by decide +kernel
set_option maxRecDepth 20000 in
theorem dX15_sent_23 : decode cX15_sent 23 = .ok (.iload_n 1, 1) := by decide +kernel
set_option maxRecDepth 20000 in
theorem dX15_sent_24 : decode cX15_sent 24 = .ok (.iaload, 1) := by decide +kernel
set_option maxRecDepth 20000 in
theorem dX15_sent_25 : decode cX15_sent 25 = .ok (.goto 4, 3) := by decide +kernel
set_option maxRecDepth 20000 in
theorem dX15_sent_28 : decode cX15_sent 28 = .ok (.iconst (-1), 1) := by decide +kernel
set_option maxRecDepth 20000 in
theorem dX15_sent_29 : decode cX15_sent 29 = .ok (.ireturn, 1) := by decide +kernel
