set_option maxRecDepth 20000 in
theorem dX1_init_0 : decode cX1_init 0 = .ok (.aload_n 0, 1) := by decide +kernel
set_option maxRecDepth 20000 in
theorem dX1_init_1 : decode cX1_init 1 = .ok (.invokespecial 3, 3) := by decide +kernel
set_option maxRecDepth 20000 in
theorem dX1_init_4 : decode cX1_init 4 = .ok (.aload_n 0, 1) := by decide +kernel
set_option maxRecDepth 20000 in
theorem dX1_init_5 : decode cX1_init 5 = .ok (.iload_n 1, 1) := by decide +kernel
set_option maxRecDepth 20000 in
theorem dX1_init_6 : decode cX1_init 6 = .ok (.putfield 9, 3) := by decide +kernel
set_option maxRecDepth 20000 in
theorem dX1_init_9 : decode cX1_init 9 = .ok (.aload_n 0, 1) := by decide +kernel
set_option maxRecDepth 20000 in
theorem dX1_init_10 : decode cX1_init 10 = .ok (.iload_n 2, 1) := by decide +kernel
set_option maxRecDepth 20000 in
theorem dX1_init_11 : decode cX1_init 11 = .ok (.putfield 15, 3) := by decide +kernel
set_option maxRecDepth 20000 in
theorem dX1_init_14 : decode cX1_init 14 = .ok (.aload_n 0, 1) := by decide +kernel
set_option maxRecDepth 20000 in
theorem dX1_init_15 : decode cX1_init 15 = .ok (.iload_n 3, 1) := by decide +kernel
set_option maxRecDepth 20000 in
theorem dX1_init_16 : decode cX1_init 16 = .ok (.putfield 18, 3) := by decide +kernel
set_option maxRecDepth 20000 in
theorem dX1_init_19 : decode cX1_init 19 = .ok (.aload_n 0, 1) := by decide +kernel
set_option maxRecDepth 20000 in
theorem dX1_init_20 : decode cX1_init 20 = .ok (.new 21, 3) := by decide +kernel
set_option maxRecDepth 20000 in
theorem dX1_init_23 : decode cX1_init 23 = .ok (.dup, 1) := by decide +kernel
set_option maxRecDepth 20000 in
theorem dX1_init_24 : decode cX1_init 24 = .ok (.iconst 1, 1) := by decide +kernel
set_option maxRecDepth 20000 in
theorem dX1_init_25 : decode cX1_init 25 = .ok (.invokespecial 23, 3) := by decide +kernel
set_option maxRecDepth 20000 in
theorem dX1_init_28 : decode cX1_init 28 = .ok (.putfield 26, 3) := by decide +kernel
set_option maxRecDepth 20000 in
theorem dX1_init_31 : decode cX1_init 31 = .ok (.aload_n 0, 1) := by decide +kernel
set_option maxRecDepth 20000 in
theorem dX1_init_32 : decode cX1_init 32 = .ok (.new 21, 3) := by decide +kernel
set_option maxRecDepth 20000 in
theorem dX1_init_35 : decode cX1_init 35 = .ok (.dup, 1) := by decide +kernel
set_option maxRecDepth 20000 in
theorem dX1_init_36 : decode cX1_init 36 = .ok (.iconst 1, 1) := by decide +kernel
set_option maxRecDepth 20000 in
theorem dX1_init_37 : decode cX1_init 37 = .ok (.invokespecial 23, 3) := by decide +kernel
set_option maxRecDepth 20000 in
theorem dX1_init_40 : decode cX1_init 40 = .ok (.putfield 30, 3) := by decide +kernel
set_option maxRecDepth 20000 in
theorem dX1_init_43 : decode cX1_init 43 = .ok (.aload_n 0, 1) := by decide +kernel
set_option maxRecDepth 20000 in
theorem dX1_init_44 : decode cX1_init 44 = .ok (.new 21, 3) := by decide +kernel
set_option maxRecDepth 20000 in
theorem dX1_init_47 : decode cX1_init 47 = .ok (.dup, 1) := by decide +kernel
set_option maxRecDepth 20000 in
theorem dX1_init_48 : decode cX1_init 48 = .ok (.ldc 33, 2) := by decide +kernel
set_option maxRecDepth 20000 in
theorem dX1_init_50 : decode cX1_init 50 = .ok (.invokespecial 23, 3) := by decide +kernel
set_option maxRecDepth 20000 in
theorem dX1_init_53 : decode cX1_init 53 = .ok (.putfield 34, 3) := by decide +kernel
set_option maxRecDepth 20000 in
theorem dX1_init_56 : decode cX1_init 56 = .ok (.aload_n 0, 1) := by decide +kernel
set_option maxRecDepth 20000 in
theorem dX1_init_57 : decode cX1_init 57 = .ok (.new 21, 3) := by decide +kernel
set_option maxRecDepth 20000 in
theorem dX1_init_60 : decode cX1_init 60 = .ok (.dup, 1) := by decide +kernel
set_option maxRecDepth 20000 in
theorem dX1_init_61 : decode cX1_init 61 = .ok (.ldc 33, 2) := by decide +kernel
set_option maxRecDepth 20000 in
theorem dX1_init_63 : decode cX1_init 63 = .ok (.invokespecial 23, 3) := by decide +kernel
set_option maxRecDepth 20000 in
theorem dX1_init_66 : decode cX1_init 66 = .ok (.putfield 37, 3) := by decide +kernel
set_option maxRecDepth 20000 in
theorem dX1_init_69 : decode cX1_init 69 = .ok (.aload_n 0, 1) := by decide +kernel
set_option maxRecDepth 20000 in
theorem dX1_init_70 : decode cX1_init 70 = .ok (.bipush 32, 2) := by decide +kernel
set_option maxRecDepth 20000 in
theorem dX1_init_72 : decode cX1_init 72 = .ok (.newarray .int, 2) := by decide +kernel
set_option maxRecDepth 20000 in
theorem dX1_init_74 : decode cX1_init 74 = .ok (.putfield 40, 3) := by decide +kernel
set_option maxRecDepth 20000 in
theorem dX1_init_77 : decode cX1_init 77 = .ok (.aload_n 0, 1) := by decide +kernel
set_option maxRecDepth 20000 in
theorem dX1_init_78 : decode cX1_init 78 = .ok (.new 44, 3) := by decide +kernel
set_option maxRecDepth 20000 in
theorem dX1_init_81 : decode cX1_init 81 = .ok (.dup, 1) := by decide +kernel
set_option maxRecDepth 20000 in
theorem dX1_init_82 : decode cX1_init 82 = .ok (.iconst 4, 1) := by decide +kernel
set_option maxRecDepth 20000 in
theorem dX1_init_83 : decode cX1_init 83 = .ok (.bipush 120, 2) := by decide +kernel
set_option maxRecDepth 20000 in
theorem dX1_init_85 : decode cX1_init 85 = .ok (.invokespecial 46, 3) := by decide +kernel
set_option maxRecDepth 20000 in
theorem dX1_init_88 : decode cX1_init 88 = .ok (.putfield 49, 3) := by decide +kernel
set_option maxRecDepth 20000 in
theorem dX1_init_91 : decode cX1_init 91 = .ok (.aload_n 0, 1) := by decide +kernel
set_option maxRecDepth 20000 in
theorem dX1_init_92 : decode cX1_init 92 = .ok (.new 44, 3) := by decide +kernel
set_option maxRecDepth 20000 in
theorem dX1_init_95 : decode cX1_init 95 = .ok (.dup, 1) := by decide +kernel
set_option maxRecDepth 20000 in
theorem dX1_init_96 : decode cX1_init 96 = .ok (.iconst 4, 1) := by decide +kernel
set_option maxRecDepth 20000 in
theorem dX1_init_97 : decode cX1_init 97 = .ok (.bipush 40, 2) := by decide +kernel
set_option maxRecDepth 20000 in
theorem dX1_init_99 : decode cX1_init 99 = .ok (.invokespecial 46, 3) := by decide +kernel
set_option maxRecDepth 20000 in
theorem dX1_init_102 : decode cX1_init 102 = .ok (.putfield 53, 3) := by decide +kernel
set_option maxRecDepth 20000 in
theorem dX1_init_105 : decode cX1_init 105 = .ok (.aload_n 0, 1) := by decide +kernel
set_option maxRecDepth 20000 in
theorem dX1_init_106 : decode cX1_init 106 = .ok (.new 44, 3) := by decide +kernel
set_option maxRecDepth 20000 in
theorem dX1_init_109 : decode cX1_init 109 = .ok (.dup, 1) := by decide +kernel
set_option maxRecDepth 20000 in
theorem dX1_init_110 : decode cX1_init 110 = .ok (.bipush 10, 2) := by decide +kernel
set_option maxRecDepth 20000 in
theorem dX1_init_112 : decode cX1_init 112 = .ok (.bipush 40, 2) := by decide +kernel
set_option maxRecDepth 20000 in
theorem dX1_init_114 : decode cX1_init 114 = .ok (.invokespecial 46, 3) := by decide +kernel
set_option maxRecDepth 20000 in
theorem dX1_init_117 : decode cX1_init 117 = .ok (.putfield 56, 3) := by decide +kernel
set_option maxRecDepth 20000 in
theorem dX1_init_120 : decode cX1_init 120 = .ok (.aload_n 0, 1) := by decide +kernel
set_option maxRecDepth 20000 in
theorem dX1_init_121 : decode cX1_init 121 = .ok (.new 59, 3) := by decide +kernel
set_option maxRecDepth 20000 in
theorem dX1_init_124 : decode cX1_init 124 = .ok (.dup, 1) := by decide +kernel
set_option maxRecDepth 20000 in
theorem dX1_init_125 : decode cX1_init 125 = .ok (.bipush 48, 2) := by decide +kernel
set_option maxRecDepth 20000 in
theorem dX1_init_127 : decode cX1_init 127 = .ok (.invokespecial 61, 3) := by decide +kernel
set_option maxRecDepth 20000 in
theorem dX1_init_130 : decode cX1_init 130 = .ok (.putfield 62, 3) := by decide +kernel
set_option maxRecDepth 20000 in
theorem dX1_init_133 : decode cX1_init 133 = .ok (.aload_n 0, 1) := by decide +kernel
set_option maxRecDepth 20000 in
theorem dX1_init_134 : decode cX1_init 134 = .ok (.bipush 9, 2) := by decide +kernel
set_option maxRecDepth 20000 in
theorem dX1_init_136 : decode cX1_init 136 = .ok (.newarray .int, 2) := by decide +kernel
set_option maxRecDepth 20000 in
theorem dX1_init_138 : decode cX1_init 138 = .ok (.putfield 66, 3) := by decide +kernel
set_option maxRecDepth 20000 in
theorem dX1_init_141 : decode cX1_init 141 = .ok (.aload_n 0, 1) := by decide +kernel
set_option maxRecDepth 20000 in
theorem dX1_init_142 : decode cX1_init 142 = .ok (.new 59, 3) := by decide +kernel
set_option maxRecDepth 20000 in
theorem dX1_init_145 : decode cX1_init 145 = .ok (.dup, 1) := by decide +kernel
set_option maxRecDepth 20000 in
theorem dX1_init_146 : decode cX1_init 146 = .ok (.bipush 64, 2) := by decide +kernel
set_option maxRecDepth 20000 in
theorem dX1_init_148 : decode cX1_init 148 = .ok (.invokespecial 61, 3) := by decide +kernel
set_option maxRecDepth 20000 in
theorem dX1_init_151 : decode cX1_init 151 = .ok (.putfield 69, 3) := by decide +kernel
set_option maxRecDepth 20000 in
theorem dX1_init_154 : decode cX1_init 154 = .ok (.aload_n 0, 1) := by decide +kernel
set_option maxRecDepth 20000 in
theorem dX1_init_155 : decode cX1_init 155 = .ok (.new 72, 3) := by decide +kernel
set_option maxRecDepth 20000 in
theorem dX1_init_158 : decode cX1_init 158 = .ok (.dup, 1) := by decide +kernel
set_option maxRecDepth 20000 in
theorem dX1_init_159 : decode cX1_init 159 = .ok (.invokespecial 74, 3) := by decide +kernel
set_option maxRecDepth 20000 in
theorem dX1_init_162 : decode cX1_init 162 = .ok (.putfield 75, 3) := by decide +kernel
set_option maxRecDepth 20000 in
theorem dX1_init_165 : decode cX1_init 165 = .ok (.aload_n 0, 1) := by decide +kernel
set_option maxRecDepth 20000 in
theorem dX1_init_166 : decode cX1_init 166 = .ok (.new 59, 3) := by decide +kernel
set_option maxRecDepth 20000 in
theorem dX1_init_169 : decode cX1_init 169 = .ok (.dup, 1) := by decide +kernel
set_option maxRecDepth 20000 in
theorem dX1_init_170 : decode cX1_init 170 = .ok (.sipush 253, 3) := by decide +kernel
set_option maxRecDepth 20000 in
theorem dX1_init_173 : decode cX1_init 173 = .ok (.invokespecial 61, 3) := by decide +kernel
set_option maxRecDepth 20000 in
theorem dX1_init_176 : decode cX1_init 176 = .ok (.putfield 79, 3) := by decide +kernel
set_option maxRecDepth 20000 in
theorem dX1_init_179 : decode cX1_init 179 = .ok (.return_, 1) := by decide +kernel
set_option maxRecDepth 20000 in
theorem dX1_bankOfKind_0 : decode cX1_bankOfKind 0 = .ok (.iload_n 1, 1) := by decide +kernel
set_option maxRecDepth 20000 in
theorem dX1_bankOfKind_1 : decode cX1_bankOfKind 1 = .ok (.tableswitch 51 0 3 #[31, 36, 41, 46], 31) := by decide +kernel
set_option maxRecDepth 20000 in
theorem dX1_bankOfKind_32 : decode cX1_bankOfKind 32 = .ok (.aload_n 0, 1) := by decide +kernel
set_option maxRecDepth 20000 in
theorem dX1_bankOfKind_33 : decode cX1_bankOfKind 33 = .ok (.getfield 26, 3) := by decide +kernel
set_option maxRecDepth 20000 in
theorem dX1_bankOfKind_36 : decode cX1_bankOfKind 36 = .ok (.areturn, 1) := by decide +kernel
set_option maxRecDepth 20000 in
theorem dX1_bankOfKind_37 : decode cX1_bankOfKind 37 = .ok (.aload_n 0, 1) := by decide +kernel
set_option maxRecDepth 20000 in
theorem dX1_bankOfKind_38 : decode cX1_bankOfKind 38 = .ok (.getfield 30, 3) := by decide +kernel
set_option maxRecDepth 20000 in
theorem dX1_bankOfKind_41 : decode cX1_bankOfKind 41 = .ok (.areturn, 1) := by decide +kernel
set_option maxRecDepth 20000 in
theorem dX1_bankOfKind_42 : decode cX1_bankOfKind 42 = .ok (.aload_n 0, 1) := by decide +kernel
set_option maxRecDepth 20000 in
theorem dX1_bankOfKind_43 : decode cX1_bankOfKind 43 = .ok (.getfield 34, 3) := by decide +kernel
set_option maxRecDepth 20000 in
theorem dX1_bankOfKind_46 : decode cX1_bankOfKind 46 = .ok (.areturn, 1) := by decide +kernel
set_option maxRecDepth 20000 in
theorem dX1_bankOfKind_47 : decode cX1_bankOfKind 47 = .ok (.aload_n 0, 1) := by decide +kernel
set_option maxRecDepth 20000 in
theorem dX1_bankOfKind_48 : decode cX1_bankOfKind 48 = .ok (.getfield 37, 3) := by decide +kernel
set_option maxRecDepth 20000 in
theorem dX1_bankOfKind_51 : decode cX1_bankOfKind 51 = .ok (.areturn, 1) := by decide +kernel
set_option maxRecDepth 20000 in
theorem dX1_bankOfKind_52 : decode cX1_bankOfKind 52 = .ok (.aconst_null, 1) := by decide +kernel
set_option maxRecDepth 20000 in
theorem dX1_bankOfKind_53 : decode cX1_bankOfKind 53 = .ok (.areturn, 1) := by decide +kernel
set_option maxRecDepth 20000 in
theorem dX1_addLimit_0 : decode cX1_addLimit 0 = .ok (.aload_n 0, 1) := by decide +kernel
set_option maxRecDepth 20000 in
theorem dX1_addLimit_1 : decode cX1_addLimit 1 = .ok (.getfield 82, 3) := by decide +kernel
set_option maxRecDepth 20000 in
theorem dX1_addLimit_4 : decode cX1_addLimit 4 = .ok (.bipush 8, 2) := by decide +kernel
set_option maxRecDepth 20000 in
theorem dX1_addLimit_6 : decode cX1_addLimit 6 = .ok (.if_icmp .lt 5, 3) := by decide +kernel
set_option maxRecDepth 20000 in
theorem dX1_addLimit_9 : decode cX1_addLimit 9 = .ok (.iconst 0, 1) := by decide +kernel
set_option maxRecDepth 20000 in
theorem dX1_addLimit_10 : decode cX1_addLimit 10 = .ok (.ireturn, 1) := by decide +kernel
set_option maxRecDepth 20000 in
theorem dX1_addLimit_11 : decode cX1_addLimit 11 = .ok (.aload_n 0, 1) := by decide +kernel
set_option maxRecDepth 20000 in
theorem dX1_addLimit_12 : decode cX1_addLimit 12 = .ok (.getfield 82, 3) := by decide +kernel
set_option maxRecDepth 20000 in
theorem dX1_addLimit_15 : decode cX1_addLimit 15 = .ok (.iconst 4, 1) := by decide +kernel
set_option maxRecDepth 20000 in
theorem dX1_addLimit_16 : decode cX1_addLimit 16 = .ok (.imul, 1) := by decide +kernel
set_option maxRecDepth 20000 in
theorem dX1_addLimit_17 : decode cX1_addLimit 17 = .ok (.istore 5, 2) := by decide +kernel
set_option maxRecDepth 20000 in
theorem dX1_addLimit_19 : decode cX1_addLimit 19 = .ok (.aload_n 0, 1) := by decide +kernel
set_option maxRecDepth 20000 in
theorem dX1_addLimit_20 : decode cX1_addLimit 20 = .ok (.getfield 40, 3) := by decide +kernel
set_option maxRecDepth 20000 in
theorem dX1_addLimit_23 : decode cX1_addLimit 23 = .ok (.iload 5, 2) := by decide +kernel
set_option maxRecDepth 20000 in
theorem dX1_addLimit_25 : decode cX1_addLimit 25 = .ok (.iload_n 1, 1) := by decide +kernel
set_option maxRecDepth 20000 in
theorem dX1_addLimit_26 : decode cX1_addLimit 26 = .ok (.iastore, 1) := by decide +kernel
set_option maxRecDepth 20000 in
theorem dX1_addLimit_27 : decode cX1_addLimit 27 = .ok (.aload_n 0, 1) := by decide +kernel
set_option maxRecDepth 20000 in
theorem dX1_addLimit_28 : decode cX1_addLimit 28 = .ok (.getfield 40, 3) := by decide +kernel
set_option maxRecDepth 20000 in
theorem dX1_addLimit_31 : decode cX1_addLimit 31 = .ok (.iload 5, 2) := by decide +kernel
set_option maxRecDepth 20000 in
theorem dX1_addLimit_33 : decode cX1_addLimit 33 = .ok (.iconst 1, 1) := by decide +kernel
set_option maxRecDepth 20000 in
theorem dX1_addLimit_34 : decode cX1_addLimit 34 = .ok (.iadd, 1) := by decide +kernel
set_option maxRecDepth 20000 in
theorem dX1_addLimit_35 : decode cX1_addLimit 35 = .ok (.iload_n 1, 1) := by decide +kernel
set_option maxRecDepth 20000 in
theorem dX1_addLimit_36 : decode cX1_addLimit 36 = .ok (.iload_n 2, 1) := by decide +kernel
set_option maxRecDepth 20000 in
theorem dX1_addLimit_37 : decode cX1_addLimit 37 = .ok (.iadd, 1) := by decide +kernel
set_option maxRecDepth 20000 in
theorem dX1_addLimit_38 : decode cX1_addLimit 38 = .ok (.iconst 1, 1) := by decide +kernel
set_option maxRecDepth 20000 in
theorem dX1_addLimit_39 : decode cX1_addLimit 39 = .ok (.isub, 1) := by decide +kernel
set_option maxRecDepth 20000 in
theorem dX1_addLimit_40 : decode cX1_addLimit 40 = .ok (.iastore, 1) := by decide +kernel
set_option maxRecDepth 20000 in
theorem dX1_addLimit_41 : decode cX1_addLimit 41 = .ok (.aload_n 0, 1) := by decide +kernel
set_option maxRecDepth 20000 in
theorem dX1_addLimit_42 : decode cX1_addLimit 42 = .ok (.getfield 40, 3) := by decide +kernel
set_option maxRecDepth 20000 in
theorem dX1_addLimit_45 : decode cX1_addLimit 45 = .ok (.iload 5, 2) := by decide +kernel
set_option maxRecDepth 20000 in
theorem dX1_addLimit_47 : decode cX1_addLimit 47 = .ok (.iconst 2, 1) := by decide +kernel
set_option maxRecDepth 20000 in
theorem dX1_addLimit_48 : decode cX1_addLimit 48 = .ok (.iadd, 1) := by decide +kernel
set_option maxRecDepth 20000 in
theorem dX1_addLimit_49 : decode cX1_addLimit 49 = .ok (.iload_n 3, 1) := by decide +kernel
set_option maxRecDepth 20000 in
theorem dX1_addLimit_50 : decode cX1_addLimit 50 = .ok (.iastore, 1) := by decide +kernel
set_option maxRecDepth 20000 in
theorem dX1_addLimit_51 : decode cX1_addLimit 51 = .ok (.aload_n 0, 1) := by decide +kernel
set_option maxRecDepth 20000 in
theorem dX1_addLimit_52 : decode cX1_addLimit 52 = .ok (.getfield 40, 3) := by decide +kernel
set_option maxRecDepth 20000 in
theorem dX1_addLimit_55 : decode cX1_addLimit 55 = .ok (.iload 5, 2) := by decide +kernel
set_option maxRecDepth 20000 in
theorem dX1_addLimit_57 : decode cX1_addLimit 57 = .ok (.iconst 3, 1) := by decide +kernel
set_option maxRecDepth 20000 in
theorem dX1_addLimit_58 : decode cX1_addLimit 58 = .ok (.iadd, 1) := by decide +kernel
set_option maxRecDepth 20000 in
theorem dX1_addLimit_59 : decode cX1_addLimit 59 = .ok (.iload 4, 2) := by decide +kernel
set_option maxRecDepth 20000 in
theorem dX1_addLimit_61 : decode cX1_addLimit 61 = .ok (.iastore, 1) := by decide +kernel
set_option maxRecDepth 20000 in
theorem dX1_addLimit_62 : decode cX1_addLimit 62 = .ok (.aload_n 0, 1) := by decide +kernel
set_option maxRecDepth 20000 in
theorem dX1_addLimit_63 : decode cX1_addLimit 63 = .ok (.dup, 1) := by decide +kernel
set_option maxRecDepth 20000 in
theorem dX1_addLimit_64 : decode cX1_addLimit 64 = .ok (.getfield 82, 3) := by decide +kernel
set_option maxRecDepth 20000 in
theorem dX1_addLimit_67 : decode cX1_addLimit 67 = .ok (.iconst 1, 1) := by decide +kernel
set_option maxRecDepth 20000 in
theorem dX1_addLimit_68 : decode cX1_addLimit 68 = .ok (.iadd, 1) := by decide +kernel
set_option maxRecDepth 20000 in
theorem dX1_addLimit_69 : decode cX1_addLimit 69 = .ok (.putfield 82, 3) := by decide +kernel
set_option maxRecDepth 20000 in
theorem dX1_addLimit_72 : decode cX1_addLimit 72 = .ok (.iconst 1, 1) := by decide +kernel
set_option maxRecDepth 20000 in
theorem dX1_addLimit_73 : decode cX1_addLimit 73 = .ok (.ireturn, 1) := by decide +kernel
set_option maxRecDepth 20000 in
theorem dX1_mayBeGiven_0 : decode cX1_mayBeGiven 0 = .ok (.iconst 0, 1) := by decide +kernel
set_option maxRecDepth 20000 in
theorem dX1_mayBeGiven_1 : decode cX1_mayBeGiven 1 = .ok (.istore_n 3, 1) := by decide +kernel
set_option maxRecDepth 20000 in
theorem dX1_mayBeGiven_2 : decode cX1_mayBeGiven 2 = .ok (.iload_n 3, 1) := by decide +kernel
set_option maxRecDepth 20000 in
theorem dX1_mayBeGiven_3 : decode cX1_mayBeGiven 3 = .ok (.aload_n 0, 1) := by decide +kernel
set_option maxRecDepth 20000 in
theorem dX1_mayBeGiven_4 : decode cX1_mayBeGiven 4 = .ok (.getfield 82, 3) := by decide +kernel
set_option maxRecDepth 20000 in
theorem dX1_mayBeGiven_7 : decode cX1_mayBeGiven 7 = .ok (.if_icmp .ge 72, 3) := by decide +kernel
set_option maxRecDepth 20000 in
theorem dX1_mayBeGiven_10 : decode cX1_mayBeGiven 10 = .ok (.iload_n 3, 1) := by decide +kernel
set_option maxRecDepth 20000 in
theorem dX1_mayBeGiven_11 : decode cX1_mayBeGiven 11 = .ok (.bipush 8, 2) := by decide +kernel
set_option maxRecDepth 20000 in
theorem dX1_mayBeGiven_13 : decode cX1_mayBeGiven 13 = .ok (.if_icmp .ge 66, 3) := by decide +kernel
set_option maxRecDepth 20000 in
theorem dX1_mayBeGiven_16 : decode cX1_mayBeGiven 16 = .ok (.iload_n 3, 1) := by decide +kernel
set_option maxRecDepth 20000 in
theorem dX1_mayBeGiven_17 : decode cX1_mayBeGiven 17 = .ok (.iconst 4, 1) := by decide +kernel
set_option maxRecDepth 20000 in
theorem dX1_mayBeGiven_18 : decode cX1_mayBeGiven 18 = .ok (.imul, 1) := by decide +kernel
set_option maxRecDepth 20000 in
theorem dX1_mayBeGiven_19 : decode cX1_mayBeGiven 19 = .ok (.istore 4, 2) := by decide +kernel
set_option maxRecDepth 20000 in
theorem dX1_mayBeGiven_21 : decode cX1_mayBeGiven 21 = .ok (.iload_n 1, 1) := by decide +kernel
set_option maxRecDepth 20000 in
theorem dX1_mayBeGiven_22 : decode cX1_mayBeGiven 22 = .ok (.aload_n 0, 1) := by decide +kernel
set_option maxRecDepth 20000 in
theorem dX1_mayBeGiven_23 : decode cX1_mayBeGiven 23 = .ok (.getfield 40, 3) := by decide +kernel
set_option maxRecDepth 20000 in
theorem dX1_mayBeGiven_26 : decode cX1_mayBeGiven 26 = .ok (.iload 4, 2) := by decide +kernel
set_option maxRecDepth 20000 in
theorem dX1_mayBeGiven_28 : decode cX1_mayBeGiven 28 = .ok (.iaload, 1) := by decide +kernel
set_option maxRecDepth 20000 in
theorem dX1_mayBeGiven_29 : decode cX1_mayBeGiven 29 = .ok (.if_icmp .lt 44, 3) := by decide +kernel
set_option maxRecDepth 20000 in
theorem dX1_mayBeGiven_32 : decode cX1_mayBeGiven 32 = .ok (.iload_n 1, 1) := by decide +kernel
set_option maxRecDepth 20000 in
theorem dX1_mayBeGiven_33 : decode cX1_mayBeGiven 33 = .ok (.aload_n 0, 1) := by decide +kernel
set_option maxRecDepth 20000 in
theorem dX1_mayBeGiven_34 : decode cX1_mayBeGiven 34 = .ok (.getfield 40, 3) := by decide +kernel
set_option maxRecDepth 20000 in
theorem dX1_mayBeGiven_37 : decode cX1_mayBeGiven 37 = .ok (.iload 4, 2) := by decide +kernel
set_option maxRecDepth 20000 in
theorem dX1_mayBeGiven_39 : decode cX1_mayBeGiven 39 = .ok (.iconst 1, 1) := by decide +kernel
set_option maxRecDepth 20000 in
theorem dX1_mayBeGiven_40 : decode cX1_mayBeGiven 40 = .ok (.iadd, 1) := by decide +kernel
set_option maxRecDepth 20000 in
theorem dX1_mayBeGiven_41 : decode cX1_mayBeGiven 41 = .ok (.iaload, 1) := by decide +kernel
set_option maxRecDepth 20000 in
theorem dX1_mayBeGiven_42 : decode cX1_mayBeGiven 42 = .ok (.if_icmp .gt 31, 3) := by decide +kernel
set_option maxRecDepth 20000 in
theorem dX1_mayBeGiven_45 : decode cX1_mayBeGiven 45 = .ok (.iload_n 2, 1) := by decide +kernel
set_option maxRecDepth 20000 in
theorem dX1_mayBeGiven_46 : decode cX1_mayBeGiven 46 = .ok (.aload_n 0, 1) := by decide +kernel
set_option maxRecDepth 20000 in
theorem dX1_mayBeGiven_47 : decode cX1_mayBeGiven 47 = .ok (.getfield 40, 3) := by decide +kernel
set_option maxRecDepth 20000 in
theorem dX1_mayBeGiven_50 : decode cX1_mayBeGiven 50 = .ok (.iload 4, 2) := by decide +kernel
set_option maxRecDepth 20000 in
theorem dX1_mayBeGiven_52 : decode cX1_mayBeGiven 52 = .ok (.iconst 2, 1) := by decide +kernel
set_option maxRecDepth 20000 in
theorem dX1_mayBeGiven_53 : decode cX1_mayBeGiven 53 = .ok (.iadd, 1) := by decide +kernel
set_option maxRecDepth 20000 in
theorem dX1_mayBeGiven_54 : decode cX1_mayBeGiven 54 = .ok (.iaload, 1) := by decide +kernel
set_option maxRecDepth 20000 in
theorem dX1_mayBeGiven_55 : decode cX1_mayBeGiven 55 = .ok (.if_icmp .lt 16, 3) := by decide +kernel
set_option maxRecDepth 20000 in
theorem dX1_mayBeGiven_58 : decode cX1_mayBeGiven 58 = .ok (.iload_n 2, 1) := by decide +kernel
set_option maxRecDepth 20000 in
theorem dX1_mayBeGiven_59 : decode cX1_mayBeGiven 59 = .ok (.aload_n 0, 1) := by decide +kernel
set_option maxRecDepth 20000 in
theorem dX1_mayBeGiven_60 : decode cX1_mayBeGiven 60 = .ok (.getfield 40, 3) := by decide +kernel
set_option maxRecDepth 20000 in
theorem dX1_mayBeGiven_63 : decode cX1_mayBeGiven 63 = .ok (.iload 4, 2) := by decide +kernel
set_option maxRecDepth 20000 in
theorem dX1_mayBeGiven_65 : decode cX1_mayBeGiven 65 = .ok (.iconst 3, 1) := by decide +kernel
set_option maxRecDepth 20000 in
theorem dX1_mayBeGiven_66 : decode cX1_mayBeGiven 66 = .ok (.iadd, 1) := by decide +kernel
set_option maxRecDepth 20000 in
theorem dX1_mayBeGiven_67 : decode cX1_mayBeGiven 67 = .ok (.iaload, 1) := by decide +kernel
set_option maxRecDepth 20000 in
theorem dX1_mayBeGiven_68 : decode cX1_mayBeGiven 68 = .ok (.if_icmp .le 5, 3) := by decide +kernel
set_option maxRecDepth 20000 in
theorem dX1_mayBeGiven_71 : decode cX1_mayBeGiven 71 = .ok (.iconst 0, 1) := by decide +kernel
set_option maxRecDepth 20000 in
theorem dX1_mayBeGiven_72 : decode cX1_mayBeGiven 72 = .ok (.ireturn, 1) := by decide +kernel
set_option maxRecDepth 20000 in
theorem dX1_mayBeGiven_73 : decode cX1_mayBeGiven 73 = .ok (.iinc 3 1, 3) := by decide +kernel
set_option maxRecDepth 20000 in
theorem dX1_mayBeGiven_76 : decode cX1_mayBeGiven 76 = .ok (.goto (-74), 3) := by decide +kernel
set_option maxRecDepth 20000 in
theorem dX1_mayBeGiven_79 : decode cX1_mayBeGiven 79 = .ok (.iconst 1, 1) := by decide +kernel
set_option maxRecDepth 20000 in
theorem dX1_mayBeGiven_80 : decode cX1_mayBeGiven 80 = .ok (.ireturn, 1) := by decide +kernel
set_option maxRecDepth 20000 in
theorem dX1_registersFault_0 : decode cX1_registersFault 0 = .ok (.aload_n 0, 1) := by decide +kernel
set_option maxRecDepth 20000 in
theorem dX1_registersFault_1 : decode cX1_registersFault 1 = .ok (.getfield 34, 3) := by decide +kernel
set_option maxRecDepth 20000 in
theorem dX1_registersFault_4 : decode cX1_registersFault 4 = .ok (.iload_n 1, 1) := by decide +kernel
set_option maxRecDepth 20000 in
theorem dX1_registersFault_5 : decode cX1_registersFault 5 = .ok (.iload_n 2, 1) := by decide +kernel
set_option maxRecDepth 20000 in
theorem dX1_registersFault_6 : decode cX1_registersFault 6 = .ok (.invokevirtual 85, 3) := by decide +kernel
set_option maxRecDepth 20000 in
theorem dX1_registersFault_9 : decode cX1_registersFault 9 = .ok (.ifCond .ne 5, 3) := by decide +kernel
set_option maxRecDepth 20000 in
theorem dX1_registersFault_12 : decode cX1_registersFault 12 = .ok (.iconst 2, 1) := by decide +kernel
set_option maxRecDepth 20000 in
theorem dX1_registersFault_13 : decode cX1_registersFault 13 = .ok (.ireturn, 1) := by decide +kernel
set_option maxRecDepth 20000 in
theorem dX1_registersFault_14 : decode cX1_registersFault 14 = .ok (.iconst 0, 1) := by decide +kernel
set_option maxRecDepth 20000 in
theorem dX1_registersFault_15 : decode cX1_registersFault 15 = .ok (.istore 5, 2) := by decide +kernel
set_option maxRecDepth 20000 in
theorem dX1_registersFault_17 : decode cX1_registersFault 17 = .ok (.iload 5, 2) := by decide +kernel
set_option maxRecDepth 20000 in
theorem dX1_registersFault_19 : decode cX1_registersFault 19 = .ok (.iload_n 2, 1) := by decide +kernel
set_option maxRecDepth 20000 in
theorem dX1_registersFault_20 : decode cX1_registersFault 20 = .ok (.if_icmp .ge 33, 3) := by decide +kernel
set_option maxRecDepth 20000 in
theorem dX1_registersFault_23 : decode cX1_registersFault 23 = .ok (.aload_n 0, 1) := by decide +kernel
set_option maxRecDepth 20000 in
theorem dX1_registersFault_24 : decode cX1_registersFault 24 = .ok (.iload_n 1, 1) := by decide +kernel
set_option maxRecDepth 20000 in
theorem dX1_registersFault_25 : decode cX1_registersFault 25 = .ok (.iload 5, 2) := by decide +kernel
set_option maxRecDepth 20000 in
theorem dX1_registersFault_27 : decode cX1_registersFault 27 = .ok (.iadd, 1) := by decide +kernel
set_option maxRecDepth 20000 in
theorem dX1_registersFault_28 : decode cX1_registersFault 28 = .ok (.aload_n 3, 1) := by decide +kernel
set_option maxRecDepth 20000 in
theorem dX1_registersFault_29 : decode cX1_registersFault 29 = .ok (.iload 4, 2) := by decide +kernel
set_option maxRecDepth 20000 in
theorem dX1_registersFault_31 : decode cX1_registersFault 31 = .ok (.iconst 2, 1) := by decide +kernel
set_option maxRecDepth 20000 in
theorem dX1_registersFault_32 : decode cX1_registersFault 32 = .ok (.iload 5, 2) := by decide +kernel
set_option maxRecDepth 20000 in
theorem dX1_registersFault_34 : decode cX1_registersFault 34 = .ok (.imul, 1) := by decide +kernel
set_option maxRecDepth 20000 in
theorem dX1_registersFault_35 : decode cX1_registersFault 35 = .ok (.iadd, 1) := by decide +kernel
set_option maxRecDepth 20000 in
theorem dX1_registersFault_36 : decode cX1_registersFault 36 = .ok (.invokevirtual 89, 3) := by decide +kernel
set_option maxRecDepth 20000 in
theorem dX1_registersFault_39 : decode cX1_registersFault 39 = .ok (.invokevirtual 93, 3) := by decide +kernel
set_option maxRecDepth 20000 in
theorem dX1_registersFault_42 : decode cX1_registersFault 42 = .ok (.ifCond .ne 5, 3) := by decide +kernel
set_option maxRecDepth 20000 in
theorem dX1_registersFault_45 : decode cX1_registersFault 45 = .ok (.iconst 3, 1) := by decide +kernel
set_option maxRecDepth 20000 in
theorem dX1_registersFault_46 : decode cX1_registersFault 46 = .ok (.ireturn, 1) := by decide +kernel
set_option maxRecDepth 20000 in
theorem dX1_registersFault_47 : decode cX1_registersFault 47 = .ok (.iinc 5 1, 3) := by decide +kernel
set_option maxRecDepth 20000 in
theorem dX1_registersFault_50 : decode cX1_registersFault 50 = .ok (.goto (-33), 3) := by decide +kernel
set_option maxRecDepth 20000 in
theorem dX1_registersFault_53 : decode cX1_registersFault 53 = .ok (.iconst 0, 1) := by decide +kernel
set_option maxRecDepth 20000 in
theorem dX1_registersFault_54 : decode cX1_registersFault 54 = .ok (.ireturn, 1) := by decide +kernel
set_option maxRecDepth 20000 in
theorem dX1_counterOf_0 : decode cX1_counterOf 0 = .ok (.iload_n 1, 1) := by decide +kernel
set_option maxRecDepth 20000 in
theorem dX1_counterOf_1 : decode cX1_counterOf 1 = .ok (.ifCond .lt 18, 3) := by decide +kernel
set_option maxRecDepth 20000 in
theorem dX1_counterOf_4 : decode cX1_counterOf 4 = .ok (.iload_n 1, 1) := by decide +kernel
set_option maxRecDepth 20000 in
theorem dX1_counterOf_5 : decode cX1_counterOf 5 = .ok (.bipush 9, 2) := by decide +kernel
set_option maxRecDepth 20000 in
theorem dX1_counterOf_7 : decode cX1_counterOf 7 = .ok (.if_icmp .ge 12, 3) := by decide +kernel
set_option maxRecDepth 20000 in
theorem dX1_counterOf_10 : decode cX1_counterOf 10 = .ok (.aload_n 0, 1) := by decide +kernel
set_option maxRecDepth 20000 in
theorem dX1_counterOf_11 : decode cX1_counterOf 11 = .ok (.getfield 66, 3) := by decide +kernel
set_option maxRecDepth 20000 in
theorem dX1_counterOf_14 : decode cX1_counterOf 14 = .ok (.iload_n 1, 1) := by decide +kernel
set_option maxRecDepth 20000 in
theorem dX1_counterOf_15 : decode cX1_counterOf 15 = .ok (.iaload, 1) := by decide +kernel
set_option maxRecDepth 20000 in
theorem dX1_counterOf_16 : decode cX1_counterOf 16 = .ok (.goto 4, 3) := by decide +kernel
set_option maxRecDepth 20000 in
theorem dX1_counterOf_19 : decode cX1_counterOf 19 = .ok (.iconst (-1), 1) := by decide +kernel
set_option maxRecDepth 20000 in
theorem dX1_counterOf_20 : decode cX1_counterOf 20 = .ok (.ireturn, 1) := by decide +kernel
set_option maxRecDepth 20000 in
theorem dX1_count_0 : decode cX1_count 0 = .ok (.iload_n 1, 1) := by decide +kernel
set_option maxRecDepth 20000 in
theorem dX1_count_1 : decode cX1_count 1 = .ok (.ifCond .lt 26, 3) := by decide +kernel
set_option maxRecDepth 20000 in
theorem dX1_count_4 : decode cX1_count 4 = .ok (.iload_n 1, 1) := by decide +kernel
set_option maxRecDepth 20000 in
theorem dX1_count_5 : decode cX1_count 5 = .ok (.bipush 9, 2) := by decide +kernel
set_option maxRecDepth 20000 in
theorem dX1_count_7 : decode cX1_count 7 = .ok (.if_icmp .ge 20, 3) := by decide +kernel
set_option maxRecDepth 20000 in
theorem dX1_count_10 : decode cX1_count 10 = .ok (.aload_n 0, 1) := by decide +kernel
set_option maxRecDepth 20000 in
theorem dX1_count_11 : decode cX1_count 11 = .ok (.getfield 66, 3) := by decide +kernel
set_option maxRecDepth 20000 in
theorem dX1_count_14 : decode cX1_count 14 = .ok (.iload_n 1, 1) := by decide +kernel
set_option maxRecDepth 20000 in
theorem dX1_count_15 : decode cX1_count 15 = .ok (.aload_n 0, 1) := by decide +kernel
set_option maxRecDepth 20000 in
theorem dX1_count_16 : decode cX1_count 16 = .ok (.getfield 66, 3) := by decide +kernel
set_option maxRecDepth 20000 in
theorem dX1_count_19 : decode cX1_count 19 = .ok (.iload_n 1, 1) := by decide +kernel
set_option maxRecDepth 20000 in
theorem dX1_count_20 : decode cX1_count 20 = .ok (.iaload, 1) := by decide +kernel
set_option maxRecDepth 20000 in
theorem dX1_count_21 : decode cX1_count 21 = .ok (.iconst 1, 1) := by decide +kernel
set_option maxRecDepth 20000 in
theorem dX1_count_22 : decode cX1_count 22 = .ok (.iadd, 1) := by decide +kernel
set_option maxRecDepth 20000 in
theorem dX1_count_23 : decode cX1_count 23 = .ok (.ldc 33, 2) := by decide +kernel
set_option maxRecDepth 20000 in
theorem dX1_count_25 : decode cX1_count 25 = .ok (.iand, 1) := by decide +kernel
set_option maxRecDepth 20000 in
theorem dX1_count_26 : decode cX1_count 26 = .ok (.iastore, 1) := by decide +kernel
set_option maxRecDepth 20000 in
theorem dX1_count_27 : decode cX1_count 27 = .ok (.return_, 1) := by decide +kernel
set_option maxRecDepth 20000 in
theorem dX1_clearCounters_0 : decode cX1_clearCounters 0 = .ok (.iconst 0, 1) := by decide +kernel
set_option maxRecDepth 20000 in
theorem dX1_clearCounters_1 : decode cX1_clearCounters 1 = .ok (.istore_n 1, 1) := by decide +kernel
set_option maxRecDepth 20000 in
theorem dX1_clearCounters_2 : decode cX1_clearCounters 2 = .ok (.iload_n 1, 1) := by decide +kernel
set_option maxRecDepth 20000 in
theorem dX1_clearCounters_3 : decode cX1_clearCounters 3 = .ok (.bipush 9, 2) := by decide +kernel
set_option maxRecDepth 20000 in
theorem dX1_clearCounters_5 : decode cX1_clearCounters 5 = .ok (.if_icmp .ge 16, 3) := by decide +kernel
set_option maxRecDepth 20000 in
theorem dX1_clearCounters_8 : decode cX1_clearCounters 8 = .ok (.aload_n 0, 1) := by decide +kernel
set_option maxRecDepth 20000 in
theorem dX1_clearCounters_9 : decode cX1_clearCounters 9 = .ok (.getfield 66, 3) := by decide +kernel
set_option maxRecDepth 20000 in
theorem dX1_clearCounters_12 : decode cX1_clearCounters 12 = .ok (.iload_n 1, 1) := by decide +kernel
set_option maxRecDepth 20000 in
theorem dX1_clearCounters_13 : decode cX1_clearCounters 13 = .ok (.iconst 0, 1) := by decide +kernel
set_option maxRecDepth 20000 in
theorem dX1_clearCounters_14 : decode cX1_clearCounters 14 = .ok (.iastore, 1) := by decide +kernel
set_option maxRecDepth 20000 in
theorem dX1_clearCounters_15 : decode cX1_clearCounters 15 = .ok (.iinc 1 1, 3) := by decide +kernel
set_option maxRecDepth 20000 in
theorem dX1_clearCounters_18 : decode cX1_clearCounters 18 = .ok (.goto (-16), 3) := by decide +kernel
set_option maxRecDepth 20000 in
theorem dX1_clearCounters_21 : decode cX1_clearCounters 21 = .ok (.return_, 1) := by decide +kernel
set_option maxRecDepth 20000 in
theorem dX1_countFrame_0 : decode cX1_countFrame 0 = .ok (.aload_n 0, 1) := by decide +kernel
set_option maxRecDepth 20000 in
theorem dX1_countFrame_1 : decode cX1_countFrame 1 = .ok (.getfield 96, 3) := by decide +kernel
set_option maxRecDepth 20000 in
theorem dX1_countFrame_4 : decode cX1_countFrame 4 = .ok (.ifCond .eq 8, 3) := by decide +kernel
set_option maxRecDepth 20000 in
theorem dX1_countFrame_7 : decode cX1_countFrame 7 = .ok (.bipush 32, 2) := by decide +kernel
set_option maxRecDepth 20000 in
theorem dX1_countFrame_9 : decode cX1_countFrame 9 = .ok (.goto 4, 3) := by decide +kernel
set_option maxRecDepth 20000 in
theorem dX1_countFrame_12 : decode cX1_countFrame 12 = .ok (.iconst 0, 1) := by decide +kernel
set_option maxRecDepth 20000 in
theorem dX1_countFrame_13 : decode cX1_countFrame 13 = .ok (.istore_n 1, 1) := by decide +kernel
set_option maxRecDepth 20000 in
theorem dX1_countFrame_14 : decode cX1_countFrame 14 = .ok (.aload_n 0, 1) := by decide +kernel
set_option maxRecDepth 20000 in
theorem dX1_countFrame_15 : decode cX1_countFrame 15 = .ok (.getfield 75, 3) := by decide +kernel
set_option maxRecDepth 20000 in
theorem dX1_countFrame_18 : decode cX1_countFrame 18 = .ok (.invokevirtual 100, 3) := by decide +kernel
set_option maxRecDepth 20000 in
theorem dX1_countFrame_21 : decode cX1_countFrame 21 = .ok (.ifCond .ne 41, 3) := by decide +kernel
set_option maxRecDepth 20000 in
theorem dX1_countFrame_24 : decode cX1_countFrame 24 = .ok (.aload_n 0, 1) := by decide +kernel
set_option maxRecDepth 20000 in
theorem dX1_countFrame_25 : decode cX1_countFrame 25 = .ok (.iconst 1, 1) := by decide +kernel
set_option maxRecDepth 20000 in
theorem dX1_countFrame_26 : decode cX1_countFrame 26 = .ok (.invokevirtual 104, 3) := by decide +kernel
set_option maxRecDepth 20000 in
theorem dX1_countFrame_29 : decode cX1_countFrame 29 = .ok (.aload_n 0, 1) := by decide +kernel
set_option maxRecDepth 20000 in
theorem dX1_countFrame_30 : decode cX1_countFrame 30 = .ok (.getfield 75, 3) := by decide +kernel
set_option maxRecDepth 20000 in
theorem dX1_countFrame_33 : decode cX1_countFrame 33 = .ok (.getfield 107, 3) := by decide +kernel
set_option maxRecDepth 20000 in
theorem dX1_countFrame_36 : decode cX1_countFrame 36 = .ok (.ifCond .eq 12, 3) := by decide +kernel
set_option maxRecDepth 20000 in
theorem dX1_countFrame_39 : decode cX1_countFrame 39 = .ok (.aload_n 0, 1) := by decide +kernel
set_option maxRecDepth 20000 in
theorem dX1_countFrame_40 : decode cX1_countFrame 40 = .ok (.bipush 7, 2) := by decide +kernel
set_option maxRecDepth 20000 in
theorem dX1_countFrame_42 : decode cX1_countFrame 42 = .ok (.invokevirtual 104, 3) := by decide +kernel
set_option maxRecDepth 20000 in
theorem dX1_countFrame_45 : decode cX1_countFrame 45 = .ok (.iinc 1 16, 3) := by decide +kernel
set_option maxRecDepth 20000 in
theorem dX1_countFrame_48 : decode cX1_countFrame 48 = .ok (.aload_n 0, 1) := by decide +kernel
set_option maxRecDepth 20000 in
theorem dX1_countFrame_49 : decode cX1_countFrame 49 = .ok (.getfield 69, 3) := by decide +kernel
set_option maxRecDepth 20000 in
theorem dX1_countFrame_52 : decode cX1_countFrame 52 = .ok (.sipush 130, 3) := by decide +kernel
set_option maxRecDepth 20000 in
theorem dX1_countFrame_55 : decode cX1_countFrame 55 = .ok (.iload_n 1, 1) := by decide +kernel
set_option maxRecDepth 20000 in
theorem dX1_countFrame_56 : decode cX1_countFrame 56 = .ok (.iadd, 1) := by decide +kernel
set_option maxRecDepth 20000 in
theorem dX1_countFrame_57 : decode cX1_countFrame 57 = .ok (.invokevirtual 110, 3) := by decide +kernel
set_option maxRecDepth 20000 in
theorem dX1_countFrame_60 : decode cX1_countFrame 60 = .ok (.iconst 0, 1) := by decide +kernel
set_option maxRecDepth 20000 in
theorem dX1_countFrame_61 : decode cX1_countFrame 61 = .ok (.ireturn, 1) := by decide +kernel
set_option maxRecDepth 20000 in
theorem dX1_countFrame_62 : decode cX1_countFrame 62 = .ok (.aload_n 0, 1) := by decide +kernel
set_option maxRecDepth 20000 in
theorem dX1_countFrame_63 : decode cX1_countFrame 63 = .ok (.iconst 0, 1) := by decide +kernel
set_option maxRecDepth 20000 in
theorem dX1_countFrame_64 : decode cX1_countFrame 64 = .ok (.invokevirtual 104, 3) := by decide +kernel
set_option maxRecDepth 20000 in
theorem dX1_countFrame_67 : decode cX1_countFrame 67 = .ok (.aload_n 0, 1) := by decide +kernel
set_option maxRecDepth 20000 in
theorem dX1_countFrame_68 : decode cX1_countFrame 68 = .ok (.getfield 75, 3) := by decide +kernel
set_option maxRecDepth 20000 in
theorem dX1_countFrame_71 : decode cX1_countFrame 71 = .ok (.getfield 113, 3) := by decide +kernel
set_option maxRecDepth 20000 in
theorem dX1_countFrame_74 : decode cX1_countFrame 74 = .ok (.iconst 0, 1) := by decide +kernel
set_option maxRecDepth 20000 in
theorem dX1_countFrame_75 : decode cX1_countFrame 75 = .ok (.invokevirtual 116, 3) := by decide +kernel
set_option maxRecDepth 20000 in
theorem dX1_countFrame_78 : decode cX1_countFrame 78 = .ok (.istore_n 2, 1) := by decide +kernel
set_option maxRecDepth 20000 in
theorem dX1_countFrame_79 : decode cX1_countFrame 79 = .ok (.iload_n 2, 1) := by decide +kernel
set_option maxRecDepth 20000 in
theorem dX1_countFrame_80 : decode cX1_countFrame 80 = .ok (.aload_n 0, 1) := by decide +kernel
set_option maxRecDepth 20000 in
theorem dX1_countFrame_81 : decode cX1_countFrame 81 = .ok (.getfield 15, 3) := by decide +kernel
set_option maxRecDepth 20000 in
theorem dX1_countFrame_84 : decode cX1_countFrame 84 = .ok (.if_icmp .eq 9, 3) := by decide +kernel
set_option maxRecDepth 20000 in
theorem dX1_countFrame_87 : decode cX1_countFrame 87 = .ok (.iload_n 2, 1) := by decide +kernel
set_option maxRecDepth 20000 in
theorem dX1_countFrame_88 : decode cX1_countFrame 88 = .ok (.ifCond .eq 5, 3) := by decide +kernel
set_option maxRecDepth 20000 in
theorem dX1_countFrame_91 : decode cX1_countFrame 91 = .ok (.iconst 0, 1) := by decide +kernel
set_option maxRecDepth 20000 in
theorem dX1_countFrame_92 : decode cX1_countFrame 92 = .ok (.ireturn, 1) := by decide +kernel
set_option maxRecDepth 20000 in
theorem dX1_countFrame_93 : decode cX1_countFrame 93 = .ok (.aload_n 0, 1) := by decide +kernel
set_option maxRecDepth 20000 in
theorem dX1_countFrame_94 : decode cX1_countFrame 94 = .ok (.iconst 3, 1) := by decide +kernel
set_option maxRecDepth 20000 in
theorem dX1_countFrame_95 : decode cX1_countFrame 95 = .ok (.invokevirtual 104, 3) := by decide +kernel
set_option maxRecDepth 20000 in
theorem dX1_countFrame_98 : decode cX1_countFrame 98 = .ok (.aload_n 0, 1) := by decide +kernel
set_option maxRecDepth 20000 in
theorem dX1_countFrame_99 : decode cX1_countFrame 99 = .ok (.getfield 69, 3) := by decide +kernel
set_option maxRecDepth 20000 in
theorem dX1_countFrame_102 : decode cX1_countFrame 102 = .ok (.sipush 128, 3) := by decide +kernel
set_option maxRecDepth 20000 in
theorem dX1_countFrame_105 : decode cX1_countFrame 105 = .ok (.iload_n 1, 1) := by decide +kernel
set_option maxRecDepth 20000 in
theorem dX1_countFrame_106 : decode cX1_countFrame 106 = .ok (.iadd, 1) := by decide +kernel
set_option maxRecDepth 20000 in
theorem dX1_countFrame_107 : decode cX1_countFrame 107 = .ok (.iload_n 2, 1) := by decide +kernel
set_option maxRecDepth 20000 in
theorem dX1_countFrame_108 : decode cX1_countFrame 108 = .ok (.ifCond .ne 8, 3) := by decide +kernel
set_option maxRecDepth 20000 in
theorem dX1_countFrame_111 : decode cX1_countFrame 111 = .ok (.bipush 64, 2) := by decide +kernel
set_option maxRecDepth 20000 in
theorem dX1_countFrame_113 : decode cX1_countFrame 113 = .ok (.goto 4, 3) := by decide +kernel
set_option maxRecDepth 20000 in
theorem dX1_countFrame_116 : decode cX1_countFrame 116 = .ok (.iconst 0, 1) := by decide +kernel
set_option maxRecDepth 20000 in
theorem dX1_countFrame_117 : decode cX1_countFrame 117 = .ok (.iadd, 1) := by decide +kernel
set_option maxRecDepth 20000 in
theorem dX1_countFrame_118 : decode cX1_countFrame 118 = .ok (.invokevirtual 110, 3) := by decide +kernel
set_option maxRecDepth 20000 in
theorem dX1_countFrame_121 : decode cX1_countFrame 121 = .ok (.iconst 1, 1) := by decide +kernel
set_option maxRecDepth 20000 in
theorem dX1_countFrame_122 : decode cX1_countFrame 122 = .ok (.ireturn, 1) := by decide +kernel
set_option maxRecDepth 20000 in
theorem dX1_keepReply_0 : decode cX1_keepReply 0 = .ok (.aload_n 1, 1) := by decide +kernel
set_option maxRecDepth 20000 in
theorem dX1_keepReply_1 : decode cX1_keepReply 1 = .ok (.getfield 119, 3) := by decide +kernel
set_option maxRecDepth 20000 in
theorem dX1_keepReply_4 : decode cX1_keepReply 4 = .ok (.ifCond .ne 9, 3) := by decide +kernel
set_option maxRecDepth 20000 in
theorem dX1_keepReply_7 : decode cX1_keepReply 7 = .ok (.aload_n 0, 1) := by decide +kernel
set_option maxRecDepth 20000 in
theorem dX1_keepReply_8 : decode cX1_keepReply 8 = .ok (.iconst 4, 1) := by decide +kernel
set_option maxRecDepth 20000 in
theorem dX1_keepReply_9 : decode cX1_keepReply 9 = .ok (.invokevirtual 104, 3) := by decide +kernel
set_option maxRecDepth 20000 in
theorem dX1_keepReply_12 : decode cX1_keepReply 12 = .ok (.return_, 1) := by decide +kernel
set_option maxRecDepth 20000 in
theorem dX1_keepReply_13 : decode cX1_keepReply 13 = .ok (.aload_n 0, 1) := by decide +kernel
set_option maxRecDepth 20000 in
theorem dX1_keepReply_14 : decode cX1_keepReply 14 = .ok (.getfield 79, 3) := by decide +kernel
set_option maxRecDepth 20000 in
theorem dX1_keepReply_17 : decode cX1_keepReply 17 = .ok (.aload_n 1, 1) := by decide +kernel
set_option maxRecDepth 20000 in
theorem dX1_keepReply_18 : decode cX1_keepReply 18 = .ok (.iconst 0, 1) := by decide +kernel
set_option maxRecDepth 20000 in
theorem dX1_keepReply_19 : decode cX1_keepReply 19 = .ok (.aload_n 1, 1) := by decide +kernel
set_option maxRecDepth 20000 in
theorem dX1_keepReply_20 : decode cX1_keepReply 20 = .ok (.getfield 119, 3) := by decide +kernel
set_option maxRecDepth 20000 in
theorem dX1_keepReply_23 : decode cX1_keepReply 23 = .ok (.invokevirtual 122, 3) := by decide +kernel
set_option maxRecDepth 20000 in
theorem dX1_keepReply_26 : decode cX1_keepReply 26 = .ok (.aload_n 0, 1) := by decide +kernel
set_option maxRecDepth 20000 in
theorem dX1_keepReply_27 : decode cX1_keepReply 27 = .ok (.aload_n 0, 1) := by decide +kernel
set_option maxRecDepth 20000 in
theorem dX1_keepReply_28 : decode cX1_keepReply 28 = .ok (.getfield 18, 3) := by decide +kernel
set_option maxRecDepth 20000 in
theorem dX1_keepReply_31 : decode cX1_keepReply 31 = .ok (.putfield 126, 3) := by decide +kernel
set_option maxRecDepth 20000 in
theorem dX1_keepReply_34 : decode cX1_keepReply 34 = .ok (.iload_n 2, 1) := by decide +kernel
set_option maxRecDepth 20000 in
theorem dX1_keepReply_35 : decode cX1_keepReply 35 = .ok (.ifCond .ne 13, 3) := by decide +kernel
set_option maxRecDepth 20000 in
theorem dX1_keepReply_38 : decode cX1_keepReply 38 = .ok (.aload_n 0, 1) := by decide +kernel
set_option maxRecDepth 20000 in
theorem dX1_keepReply_39 : decode cX1_keepReply 39 = .ok (.getfield 69, 3) := by decide +kernel
set_option maxRecDepth 20000 in
theorem dX1_keepReply_42 : decode cX1_keepReply 42 = .ok (.bipush 64, 2) := by decide +kernel
set_option maxRecDepth 20000 in
theorem dX1_keepReply_44 : decode cX1_keepReply 44 = .ok (.invokevirtual 110, 3) := by decide +kernel
set_option maxRecDepth 20000 in
theorem dX1_keepReply_47 : decode cX1_keepReply 47 = .ok (.return_, 1) := by decide +kernel
set_option maxRecDepth 20000 in
theorem dX1_keepReply_48 : decode cX1_keepReply 48 = .ok (.aload_n 0, 1) := by decide +kernel
set_option maxRecDepth 20000 in
theorem dX1_keepReply_49 : decode cX1_keepReply 49 = .ok (.iconst 2, 1) := by decide +kernel
set_option maxRecDepth 20000 in
theorem dX1_keepReply_50 : decode cX1_keepReply 50 = .ok (.invokevirtual 104, 3) := by decide +kernel
set_option maxRecDepth 20000 in
theorem dX1_keepReply_53 : decode cX1_keepReply 53 = .ok (.aload_n 0, 1) := by decide +kernel
set_option maxRecDepth 20000 in
theorem dX1_keepReply_54 : decode cX1_keepReply 54 = .ok (.getfield 69, 3) := by decide +kernel
set_option maxRecDepth 20000 in
theorem dX1_keepReply_57 : decode cX1_keepReply 57 = .ok (.iload_n 2, 1) := by decide +kernel
set_option maxRecDepth 20000 in
theorem dX1_keepReply_58 : decode cX1_keepReply 58 = .ok (.bipush 6, 2) := by decide +kernel
set_option maxRecDepth 20000 in
theorem dX1_keepReply_60 : decode cX1_keepReply 60 = .ok (.if_icmp .ne 8, 3) := by decide +kernel
set_option maxRecDepth 20000 in
theorem dX1_keepReply_63 : decode cX1_keepReply 63 = .ok (.bipush 68, 2) := by decide +kernel
set_option maxRecDepth 20000 in
theorem dX1_keepReply_65 : decode cX1_keepReply 65 = .ok (.goto 5, 3) := by decide +kernel
set_option maxRecDepth 20000 in
theorem dX1_keepReply_68 : decode cX1_keepReply 68 = .ok (.bipush 65, 2) := by decide +kernel
set_option maxRecDepth 20000 in
theorem dX1_keepReply_70 : decode cX1_keepReply 70 = .ok (.invokevirtual 110, 3) := by decide +kernel
set_option maxRecDepth 20000 in
theorem dX1_keepReply_73 : decode cX1_keepReply 73 = .ok (.return_, 1) := by decide +kernel
set_option maxRecDepth 20000 in
theorem dX1_applyRules_0 : decode cX1_applyRules 0 = .ok (.iconst 0, 1) := by decide +kernel
set_option maxRecDepth 20000 in
theorem dX1_applyRules_1 : decode cX1_applyRules 1 = .ok (.istore_n 1, 1) := by decide +kernel
set_option maxRecDepth 20000 in
theorem dX1_applyRules_2 : decode cX1_applyRules 2 = .ok (.iload_n 1, 1) := by decide +kernel
set_option maxRecDepth 20000 in
theorem dX1_applyRules_3 : decode cX1_applyRules 3 = .ok (.aload_n 0, 1) := by decide +kernel
set_option maxRecDepth 20000 in
theorem dX1_applyRules_4 : decode cX1_applyRules 4 = .ok (.getfield 62, 3) := by decide +kernel
set_option maxRecDepth 20000 in
theorem dX1_applyRules_7 : decode cX1_applyRules 7 = .ok (.getfield 119, 3) := by decide +kernel
set_option maxRecDepth 20000 in
theorem dX1_applyRules_10 : decode cX1_applyRules 10 = .ok (.if_icmp .ge 51, 3) := by decide +kernel
set_option maxRecDepth 20000 in
theorem dX1_applyRules_13 : decode cX1_applyRules 13 = .ok (.aload_n 0, 1) := by decide +kernel
set_option maxRecDepth 20000 in
theorem dX1_applyRules_14 : decode cX1_applyRules 14 = .ok (.aload_n 0, 1) := by decide +kernel
set_option maxRecDepth 20000 in
theorem dX1_applyRules_15 : decode cX1_applyRules 15 = .ok (.getfield 62, 3) := by decide +kernel
set_option maxRecDepth 20000 in
theorem dX1_applyRules_18 : decode cX1_applyRules 18 = .ok (.iload_n 1, 1) := by decide +kernel
set_option maxRecDepth 20000 in
theorem dX1_applyRules_19 : decode cX1_applyRules 19 = .ok (.invokevirtual 116, 3) := by decide +kernel
set_option maxRecDepth 20000 in
theorem dX1_applyRules_22 : decode cX1_applyRules 22 = .ok (.aload_n 0, 1) := by decide +kernel
set_option maxRecDepth 20000 in
theorem dX1_applyRules_23 : decode cX1_applyRules 23 = .ok (.getfield 62, 3) := by decide +kernel
set_option maxRecDepth 20000 in
theorem dX1_applyRules_26 : decode cX1_applyRules 26 = .ok (.iload_n 1, 1) := by decide +kernel
set_option maxRecDepth 20000 in
theorem dX1_applyRules_27 : decode cX1_applyRules 27 = .ok (.iconst 1, 1) := by decide +kernel
set_option maxRecDepth 20000 in
theorem dX1_applyRules_28 : decode cX1_applyRules 28 = .ok (.iadd, 1) := by decide +kernel
set_option maxRecDepth 20000 in
theorem dX1_applyRules_29 : decode cX1_applyRules 29 = .ok (.invokevirtual 116, 3) := by decide +kernel
set_option maxRecDepth 20000 in
theorem dX1_applyRules_32 : decode cX1_applyRules 32 = .ok (.aload_n 0, 1) := by decide +kernel
set_option maxRecDepth 20000 in
theorem dX1_applyRules_33 : decode cX1_applyRules 33 = .ok (.getfield 62, 3) := by decide +kernel
set_option maxRecDepth 20000 in
theorem dX1_applyRules_36 : decode cX1_applyRules 36 = .ok (.iload_n 1, 1) := by decide +kernel
set_option maxRecDepth 20000 in
theorem dX1_applyRules_37 : decode cX1_applyRules 37 = .ok (.iconst 2, 1) := by decide +kernel
set_option maxRecDepth 20000 in
theorem dX1_applyRules_38 : decode cX1_applyRules 38 = .ok (.iadd, 1) := by decide +kernel
set_option maxRecDepth 20000 in
theorem dX1_applyRules_39 : decode cX1_applyRules 39 = .ok (.invokevirtual 116, 3) := by decide +kernel
set_option maxRecDepth 20000 in
theorem dX1_applyRules_42 : decode cX1_applyRules 42 = .ok (.aload_n 0, 1) := by decide +kernel
set_option maxRecDepth 20000 in
theorem dX1_applyRules_43 : decode cX1_applyRules 43 = .ok (.getfield 62, 3) := by decide +kernel
set_option maxRecDepth 20000 in
theorem dX1_applyRules_46 : decode cX1_applyRules 46 = .ok (.iload_n 1, 1) := by decide +kernel
set_option maxRecDepth 20000 in
theorem dX1_applyRules_47 : decode cX1_applyRules 47 = .ok (.iconst 3, 1) := by decide +kernel
set_option maxRecDepth 20000 in
theorem dX1_applyRules_48 : decode cX1_applyRules 48 = .ok (.iadd, 1) := by decide +kernel
set_option maxRecDepth 20000 in
theorem dX1_applyRules_49 : decode cX1_applyRules 49 = .ok (.invokevirtual 116, 3) := by decide +kernel
set_option maxRecDepth 20000 in
theorem dX1_applyRules_52 : decode cX1_applyRules 52 = .ok (.invokevirtual 129, 3) := by decide +kernel
set_option maxRecDepth 20000 in
theorem dX1_applyRules_55 : decode cX1_applyRules 55 = .ok (.iinc 1 4, 3) := by decide +kernel
set_option maxRecDepth 20000 in
theorem dX1_applyRules_58 : decode cX1_applyRules 58 = .ok (.goto (-56), 3) := by decide +kernel
set_option maxRecDepth 20000 in
theorem dX1_applyRules_61 : decode cX1_applyRules 61 = .ok (.return_, 1) := by decide +kernel
set_option maxRecDepth 20000 in
theorem dX1_addRule_0 : decode cX1_addRule 0 = .ok (.aload_n 0, 1) := by decide +kernel
set_option maxRecDepth 20000 in
theorem dX1_addRule_1 : decode cX1_addRule 1 = .ok (.getfield 62, 3) := by decide +kernel
set_option maxRecDepth 20000 in
theorem dX1_addRule_4 : decode cX1_addRule 4 = .ok (.getfield 119, 3) := by decide +kernel
set_option maxRecDepth 20000 in
theorem dX1_addRule_7 : decode cX1_addRule 7 = .ok (.bipush 48, 2) := by decide +kernel
set_option maxRecDepth 20000 in
theorem dX1_addRule_9 : decode cX1_addRule 9 = .ok (.if_icmp .lt 5, 3) := by decide +kernel
set_option maxRecDepth 20000 in
theorem dX1_addRule_12 : decode cX1_addRule 12 = .ok (.iconst 0, 1) := by decide +kernel
set_option maxRecDepth 20000 in
theorem dX1_addRule_13 : decode cX1_addRule 13 = .ok (.ireturn, 1) := by decide +kernel
set_option maxRecDepth 20000 in
theorem dX1_addRule_14 : decode cX1_addRule 14 = .ok (.aload_n 0, 1) := by decide +kernel
set_option maxRecDepth 20000 in
theorem dX1_addRule_15 : decode cX1_addRule 15 = .ok (.getfield 62, 3) := by decide +kernel
set_option maxRecDepth 20000 in
theorem dX1_addRule_18 : decode cX1_addRule 18 = .ok (.iload_n 1, 1) := by decide +kernel
set_option maxRecDepth 20000 in
theorem dX1_addRule_19 : decode cX1_addRule 19 = .ok (.invokevirtual 133, 3) := by decide +kernel
set_option maxRecDepth 20000 in
theorem dX1_addRule_22 : decode cX1_addRule 22 = .ok (.aload_n 0, 1) := by decide +kernel
set_option maxRecDepth 20000 in
theorem dX1_addRule_23 : decode cX1_addRule 23 = .ok (.getfield 62, 3) := by decide +kernel
set_option maxRecDepth 20000 in
theorem dX1_addRule_26 : decode cX1_addRule 26 = .ok (.iload_n 2, 1) := by decide +kernel
set_option maxRecDepth 20000 in
theorem dX1_addRule_27 : decode cX1_addRule 27 = .ok (.invokevirtual 133, 3) := by decide +kernel
set_option maxRecDepth 20000 in
theorem dX1_addRule_30 : decode cX1_addRule 30 = .ok (.aload_n 0, 1) := by decide +kernel
set_option maxRecDepth 20000 in
theorem dX1_addRule_31 : decode cX1_addRule 31 = .ok (.getfield 62, 3) := by decide +kernel
set_option maxRecDepth 20000 in
theorem dX1_addRule_34 : decode cX1_addRule 34 = .ok (.iload_n 3, 1) := by decide +kernel
set_option maxRecDepth 20000 in
theorem dX1_addRule_35 : decode cX1_addRule 35 = .ok (.invokevirtual 133, 3) := by decide +kernel
set_option maxRecDepth 20000 in
theorem dX1_addRule_38 : decode cX1_addRule 38 = .ok (.aload_n 0, 1) := by decide +kernel
set_option maxRecDepth 20000 in
theorem dX1_addRule_39 : decode cX1_addRule 39 = .ok (.getfield 62, 3) := by decide +kernel
set_option maxRecDepth 20000 in
theorem dX1_addRule_42 : decode cX1_addRule 42 = .ok (.iload 4, 2) := by decide +kernel
set_option maxRecDepth 20000 in
theorem dX1_addRule_44 : decode cX1_addRule 44 = .ok (.invokevirtual 133, 3) := by decide +kernel
set_option maxRecDepth 20000 in
theorem dX1_addRule_47 : decode cX1_addRule 47 = .ok (.iconst 1, 1) := by decide +kernel
set_option maxRecDepth 20000 in
theorem dX1_addRule_48 : decode cX1_addRule 48 = .ok (.ireturn, 1) := by decide +kernel
set_option maxRecDepth 20000 in
theorem dX1_applyOne_0 : decode cX1_applyOne 0 = .ok (.iload_n 1, 1) := by decide +kernel
set_option maxRecDepth 20000 in
theorem dX1_applyOne_1 : decode cX1_applyOne 1 = .ok (.tableswitch 300 0 5 #[39, 72, 115, 171, 231, 255], 39) := by decide +kernel
set_option maxRecDepth 20000 in
theorem dX1_applyOne_40 : decode cX1_applyOne 40 = .ok (.aload_n 0, 1) := by decide +kernel
set_option maxRecDepth 20000 in
theorem dX1_applyOne_41 : decode cX1_applyOne 41 = .ok (.getfield 37, 3) := by decide +kernel
set_option maxRecDepth 20000 in
theorem dX1_applyOne_44 : decode cX1_applyOne 44 = .ok (.iload_n 2, 1) := by decide +kernel
set_option maxRecDepth 20000 in
theorem dX1_applyOne_45 : decode cX1_applyOne 45 = .ok (.iconst 1, 1) := by decide +kernel
set_option maxRecDepth 20000 in
theorem dX1_applyOne_46 : decode cX1_applyOne 46 = .ok (.invokevirtual 85, 3) := by decide +kernel
set_option maxRecDepth 20000 in
theorem dX1_applyOne_49 : decode cX1_applyOne 49 = .ok (.ifCond .eq 290, 3) := by decide +kernel
set_option maxRecDepth 20000 in
theorem dX1_applyOne_52 : decode cX1_applyOne 52 = .ok (.aload_n 0, 1) := by decide +kernel
set_option maxRecDepth 20000 in
theorem dX1_applyOne_53 : decode cX1_applyOne 53 = .ok (.getfield 37, 3) := by decide +kernel
set_option maxRecDepth 20000 in
theorem dX1_applyOne_56 : decode cX1_applyOne 56 = .ok (.iload_n 2, 1) := by decide +kernel
set_option maxRecDepth 20000 in
theorem dX1_applyOne_57 : decode cX1_applyOne 57 = .ok (.aload_n 0, 1) := by decide +kernel
set_option maxRecDepth 20000 in
theorem dX1_applyOne_58 : decode cX1_applyOne 58 = .ok (.getfield 37, 3) := by decide +kernel
set_option maxRecDepth 20000 in
theorem dX1_applyOne_61 : decode cX1_applyOne 61 = .ok (.iload_n 2, 1) := by decide +kernel
set_option maxRecDepth 20000 in
theorem dX1_applyOne_62 : decode cX1_applyOne 62 = .ok (.invokevirtual 136, 3) := by decide +kernel
set_option maxRecDepth 20000 in
theorem dX1_applyOne_65 : decode cX1_applyOne 65 = .ok (.iload_n 3, 1) := by decide +kernel
set_option maxRecDepth 20000 in
theorem dX1_applyOne_66 : decode cX1_applyOne 66 = .ok (.iadd, 1) := by decide +kernel
set_option maxRecDepth 20000 in
theorem dX1_applyOne_67 : decode cX1_applyOne 67 = .ok (.invokevirtual 139, 3) := by decide +kernel
set_option maxRecDepth 20000 in
theorem dX1_applyOne_70 : decode cX1_applyOne 70 = .ok (.goto 269, 3) := by decide +kernel
set_option maxRecDepth 20000 in
theorem dX1_applyOne_73 : decode cX1_applyOne 73 = .ok (.aload_n 0, 1) := by decide +kernel
set_option maxRecDepth 20000 in
theorem dX1_applyOne_74 : decode cX1_applyOne 74 = .ok (.getfield 37, 3) := by decide +kernel
set_option maxRecDepth 20000 in
theorem dX1_applyOne_77 : decode cX1_applyOne 77 = .ok (.iload_n 2, 1) := by decide +kernel
set_option maxRecDepth 20000 in
theorem dX1_applyOne_78 : decode cX1_applyOne 78 = .ok (.iconst 1, 1) := by decide +kernel
set_option maxRecDepth 20000 in
theorem dX1_applyOne_79 : decode cX1_applyOne 79 = .ok (.invokevirtual 85, 3) := by decide +kernel
set_option maxRecDepth 20000 in
theorem dX1_applyOne_82 : decode cX1_applyOne 82 = .ok (.ifCond .eq 257, 3) := by decide +kernel
set_option maxRecDepth 20000 in
theorem dX1_applyOne_85 : decode cX1_applyOne 85 = .ok (.aload_n 0, 1) := by decide +kernel
set_option maxRecDepth 20000 in
theorem dX1_applyOne_86 : decode cX1_applyOne 86 = .ok (.getfield 34, 3) := by decide +kernel
set_option maxRecDepth 20000 in
theorem dX1_applyOne_89 : decode cX1_applyOne 89 = .ok (.iload_n 3, 1) := by decide +kernel
set_option maxRecDepth 20000 in
theorem dX1_applyOne_90 : decode cX1_applyOne 90 = .ok (.iconst 1, 1) := by decide +kernel
set_option maxRecDepth 20000 in
theorem dX1_applyOne_91 : decode cX1_applyOne 91 = .ok (.invokevirtual 85, 3) := by decide +kernel
set_option maxRecDepth 20000 in
theorem dX1_applyOne_94 : decode cX1_applyOne 94 = .ok (.ifCond .eq 245, 3) := by decide +kernel
set_option maxRecDepth 20000 in
theorem dX1_applyOne_97 : decode cX1_applyOne 97 = .ok (.aload_n 0, 1) := by decide +kernel
set_option maxRecDepth 20000 in
theorem dX1_applyOne_98 : decode cX1_applyOne 98 = .ok (.getfield 37, 3) := by decide +kernel
set_option maxRecDepth 20000 in
theorem dX1_applyOne_101 : decode cX1_applyOne 101 = .ok (.iload_n 2, 1) := by decide +kernel
set_option maxRecDepth 20000 in
theorem dX1_applyOne_102 : decode cX1_applyOne 102 = .ok (.aload_n 0, 1) := by decide +kernel
set_option maxRecDepth 20000 in
theorem dX1_applyOne_103 : decode cX1_applyOne 103 = .ok (.getfield 34, 3) := by decide +kernel
set_option maxRecDepth 20000 in
theorem dX1_applyOne_106 : decode cX1_applyOne 106 = .ok (.iload_n 3, 1) := by decide +kernel
set_option maxRecDepth 20000 in
theorem dX1_applyOne_107 : decode cX1_applyOne 107 = .ok (.invokevirtual 136, 3) := by decide +kernel
set_option maxRecDepth 20000 in
theorem dX1_applyOne_110 : decode cX1_applyOne 110 = .ok (.invokevirtual 139, 3) := by decide +kernel
set_option maxRecDepth 20000 in
theorem dX1_applyOne_113 : decode cX1_applyOne 113 = .ok (.goto 226, 3) := by decide +kernel
set_option maxRecDepth 20000 in
theorem dX1_applyOne_116 : decode cX1_applyOne 116 = .ok (.aload_n 0, 1) := by decide +kernel
set_option maxRecDepth 20000 in
theorem dX1_applyOne_117 : decode cX1_applyOne 117 = .ok (.getfield 37, 3) := by decide +kernel
set_option maxRecDepth 20000 in
theorem dX1_applyOne_120 : decode cX1_applyOne 120 = .ok (.iload_n 2, 1) := by decide +kernel
set_option maxRecDepth 20000 in
theorem dX1_applyOne_121 : decode cX1_applyOne 121 = .ok (.iconst 1, 1) := by decide +kernel
set_option maxRecDepth 20000 in
theorem dX1_applyOne_122 : decode cX1_applyOne 122 = .ok (.invokevirtual 85, 3) := by decide +kernel
set_option maxRecDepth 20000 in
theorem dX1_applyOne_125 : decode cX1_applyOne 125 = .ok (.ifCond .eq 214, 3) := by decide +kernel
set_option maxRecDepth 20000 in
theorem dX1_applyOne_128 : decode cX1_applyOne 128 = .ok (.aload_n 0, 1) := by decide +kernel
set_option maxRecDepth 20000 in
theorem dX1_applyOne_129 : decode cX1_applyOne 129 = .ok (.getfield 34, 3) := by decide +kernel
set_option maxRecDepth 20000 in
theorem dX1_applyOne_132 : decode cX1_applyOne 132 = .ok (.iload_n 3, 1) := by decide +kernel
set_option maxRecDepth 20000 in
theorem dX1_applyOne_133 : decode cX1_applyOne 133 = .ok (.iconst 1, 1) := by decide +kernel
set_option maxRecDepth 20000 in
theorem dX1_applyOne_134 : decode cX1_applyOne 134 = .ok (.invokevirtual 85, 3) := by decide +kernel
set_option maxRecDepth 20000 in
theorem dX1_applyOne_137 : decode cX1_applyOne 137 = .ok (.ifCond .eq 202, 3) := by decide +kernel
set_option maxRecDepth 20000 in
theorem dX1_applyOne_140 : decode cX1_applyOne 140 = .ok (.aload_n 0, 1) := by decide +kernel
set_option maxRecDepth 20000 in
theorem dX1_applyOne_141 : decode cX1_applyOne 141 = .ok (.getfield 37, 3) := by decide +kernel
set_option maxRecDepth 20000 in
theorem dX1_applyOne_144 : decode cX1_applyOne 144 = .ok (.iload_n 2, 1) := by decide +kernel
set_option maxRecDepth 20000 in
theorem dX1_applyOne_145 : decode cX1_applyOne 145 = .ok (.aload_n 0, 1) := by decide +kernel
set_option maxRecDepth 20000 in
theorem dX1_applyOne_146 : decode cX1_applyOne 146 = .ok (.getfield 37, 3) := by decide +kernel
set_option maxRecDepth 20000 in
theorem dX1_applyOne_149 : decode cX1_applyOne 149 = .ok (.iload_n 2, 1) := by decide +kernel
set_option maxRecDepth 20000 in
theorem dX1_applyOne_150 : decode cX1_applyOne 150 = .ok (.invokevirtual 136, 3) := by decide +kernel
set_option maxRecDepth 20000 in
theorem dX1_applyOne_153 : decode cX1_applyOne 153 = .ok (.aload_n 0, 1) := by decide +kernel
set_option maxRecDepth 20000 in
theorem dX1_applyOne_154 : decode cX1_applyOne 154 = .ok (.getfield 34, 3) := by decide +kernel
set_option maxRecDepth 20000 in
theorem dX1_applyOne_157 : decode cX1_applyOne 157 = .ok (.iload_n 3, 1) := by decide +kernel
set_option maxRecDepth 20000 in
theorem dX1_applyOne_158 : decode cX1_applyOne 158 = .ok (.invokevirtual 136, 3) := by decide +kernel
set_option maxRecDepth 20000 in
theorem dX1_applyOne_161 : decode cX1_applyOne 161 = .ok (.iload 4, 2) := by decide +kernel
set_option maxRecDepth 20000 in
theorem dX1_applyOne_163 : decode cX1_applyOne 163 = .ok (.invokestatic 142, 3) := by decide +kernel
set_option maxRecDepth 20000 in
theorem dX1_applyOne_166 : decode cX1_applyOne 166 = .ok (.invokevirtual 139, 3) := by decide +kernel
set_option maxRecDepth 20000 in
theorem dX1_applyOne_169 : decode cX1_applyOne 169 = .ok (.goto 170, 3) := by decide +kernel
set_option maxRecDepth 20000 in
theorem dX1_applyOne_172 : decode cX1_applyOne 172 = .ok (.aload_n 0, 1) := by decide +kernel
set_option maxRecDepth 20000 in
theorem dX1_applyOne_173 : decode cX1_applyOne 173 = .ok (.getfield 37, 3) := by decide +kernel
set_option maxRecDepth 20000 in
theorem dX1_applyOne_176 : decode cX1_applyOne 176 = .ok (.iload_n 2, 1) := by decide +kernel
set_option maxRecDepth 20000 in
theorem dX1_applyOne_177 : decode cX1_applyOne 177 = .ok (.iconst 1, 1) := by decide +kernel
set_option maxRecDepth 20000 in
theorem dX1_applyOne_178 : decode cX1_applyOne 178 = .ok (.invokevirtual 85, 3) := by decide +kernel
set_option maxRecDepth 20000 in
theorem dX1_applyOne_181 : decode cX1_applyOne 181 = .ok (.ifCond .eq 158, 3) := by decide +kernel
set_option maxRecDepth 20000 in
theorem dX1_applyOne_184 : decode cX1_applyOne 184 = .ok (.aload_n 0, 1) := by decide +kernel
set_option maxRecDepth 20000 in
theorem dX1_applyOne_185 : decode cX1_applyOne 185 = .ok (.getfield 34, 3) := by decide +kernel
set_option maxRecDepth 20000 in
theorem dX1_applyOne_188 : decode cX1_applyOne 188 = .ok (.iload_n 3, 1) := by decide +kernel
set_option maxRecDepth 20000 in
theorem dX1_applyOne_189 : decode cX1_applyOne 189 = .ok (.iconst 1, 1) := by decide +kernel
set_option maxRecDepth 20000 in
theorem dX1_applyOne_190 : decode cX1_applyOne 190 = .ok (.invokevirtual 85, 3) := by decide +kernel
set_option maxRecDepth 20000 in
theorem dX1_applyOne_193 : decode cX1_applyOne 193 = .ok (.ifCond .eq 146, 3) := by decide +kernel
set_option maxRecDepth 20000 in
theorem dX1_applyOne_196 : decode cX1_applyOne 196 = .ok (.aload_n 0, 1) := by decide +kernel
set_option maxRecDepth 20000 in
theorem dX1_applyOne_197 : decode cX1_applyOne 197 = .ok (.getfield 30, 3) := by decide +kernel
set_option maxRecDepth 20000 in
theorem dX1_applyOne_200 : decode cX1_applyOne 200 = .ok (.iload 4, 2) := by decide +kernel
set_option maxRecDepth 20000 in
theorem dX1_applyOne_202 : decode cX1_applyOne 202 = .ok (.aload_n 0, 1) := by decide +kernel
set_option maxRecDepth 20000 in
theorem dX1_applyOne_203 : decode cX1_applyOne 203 = .ok (.getfield 37, 3) := by decide +kernel
set_option maxRecDepth 20000 in
theorem dX1_applyOne_206 : decode cX1_applyOne 206 = .ok (.iload_n 2, 1) := by decide +kernel
set_option maxRecDepth 20000 in
theorem dX1_applyOne_207 : decode cX1_applyOne 207 = .ok (.invokevirtual 136, 3) := by decide +kernel
set_option maxRecDepth 20000 in
theorem dX1_applyOne_210 : decode cX1_applyOne 210 = .ok (.aload_n 0, 1) := by decide +kernel
set_option maxRecDepth 20000 in
theorem dX1_applyOne_211 : decode cX1_applyOne 211 = .ok (.getfield 34, 3) := by decide +kernel
set_option maxRecDepth 20000 in
theorem dX1_applyOne_214 : decode cX1_applyOne 214 = .ok (.iload_n 3, 1) := by decide +kernel
set_option maxRecDepth 20000 in
theorem dX1_applyOne_215 : decode cX1_applyOne 215 = .ok (.invokevirtual 136, 3) := by decide +kernel
set_option maxRecDepth 20000 in
theorem dX1_applyOne_218 : decode cX1_applyOne 218 = .ok (.if_icmp .le 7, 3) := by decide +kernel
set_option maxRecDepth 20000 in
theorem dX1_applyOne_221 : decode cX1_applyOne 221 = .ok (.iconst 1, 1) := by decide +kernel
set_option maxRecDepth 20000 in
theorem dX1_applyOne_222 : decode cX1_applyOne 222 = .ok (.goto 4, 3) := by decide +kernel
set_option maxRecDepth 20000 in
theorem dX1_applyOne_225 : decode cX1_applyOne 225 = .ok (.iconst 0, 1) := by decide +kernel
set_option maxRecDepth 20000 in
theorem dX1_applyOne_226 : decode cX1_applyOne 226 = .ok (.invokevirtual 139, 3) := by decide +kernel
set_option maxRecDepth 20000 in
theorem dX1_applyOne_229 : decode cX1_applyOne 229 = .ok (.goto 110, 3) := by decide +kernel
set_option maxRecDepth 20000 in
theorem dX1_applyOne_232 : decode cX1_applyOne 232 = .ok (.aload_n 0, 1) := by decide +kernel
set_option maxRecDepth 20000 in
theorem dX1_applyOne_233 : decode cX1_applyOne 233 = .ok (.getfield 30, 3) := by decide +kernel
set_option maxRecDepth 20000 in
theorem dX1_applyOne_236 : decode cX1_applyOne 236 = .ok (.iload_n 2, 1) := by decide +kernel
set_option maxRecDepth 20000 in
theorem dX1_applyOne_237 : decode cX1_applyOne 237 = .ok (.invokevirtual 136, 3) := by decide +kernel
set_option maxRecDepth 20000 in
theorem dX1_applyOne_240 : decode cX1_applyOne 240 = .ok (.iconst 1, 1) := by decide +kernel
set_option maxRecDepth 20000 in
theorem dX1_applyOne_241 : decode cX1_applyOne 241 = .ok (.if_icmp .ne 98, 3) := by decide +kernel
set_option maxRecDepth 20000 in
theorem dX1_applyOne_244 : decode cX1_applyOne 244 = .ok (.aload_n 0, 1) := by decide +kernel
set_option maxRecDepth 20000 in
theorem dX1_applyOne_245 : decode cX1_applyOne 245 = .ok (.getfield 26, 3) := by decide +kernel
set_option maxRecDepth 20000 in
theorem dX1_applyOne_248 : decode cX1_applyOne 248 = .ok (.iload_n 3, 1) := by decide +kernel
set_option maxRecDepth 20000 in
theorem dX1_applyOne_249 : decode cX1_applyOne 249 = .ok (.iconst 1, 1) := by decide +kernel
set_option maxRecDepth 20000 in
theorem dX1_applyOne_250 : decode cX1_applyOne 250 = .ok (.invokevirtual 139, 3) := by decide +kernel
set_option maxRecDepth 20000 in
theorem dX1_applyOne_253 : decode cX1_applyOne 253 = .ok (.goto 86, 3) := by decide +kernel
set_option maxRecDepth 20000 in
theorem dX1_applyOne_256 : decode cX1_applyOne 256 = .ok (.aload_n 0, 1) := by decide +kernel
set_option maxRecDepth 20000 in
theorem dX1_applyOne_257 : decode cX1_applyOne 257 = .ok (.getfield 26, 3) := by decide +kernel
set_option maxRecDepth 20000 in
theorem dX1_applyOne_260 : decode cX1_applyOne 260 = .ok (.iload_n 2, 1) := by decide +kernel
set_option maxRecDepth 20000 in
theorem dX1_applyOne_261 : decode cX1_applyOne 261 = .ok (.invokevirtual 136, 3) := by decide +kernel
set_option maxRecDepth 20000 in
theorem dX1_applyOne_264 : decode cX1_applyOne 264 = .ok (.iconst 1, 1) := by decide +kernel
set_option maxRecDepth 20000 in
theorem dX1_applyOne_265 : decode cX1_applyOne 265 = .ok (.if_icmp .ne 74, 3) := by decide +kernel
set_option maxRecDepth 20000 in
theorem dX1_applyOne_268 : decode cX1_applyOne 268 = .ok (.aload_n 0, 1) := by decide +kernel
set_option maxRecDepth 20000 in
theorem dX1_applyOne_269 : decode cX1_applyOne 269 = .ok (.getfield 37, 3) := by decide +kernel
set_option maxRecDepth 20000 in
theorem dX1_applyOne_272 : decode cX1_applyOne 272 = .ok (.iload_n 3, 1) := by decide +kernel
set_option maxRecDepth 20000 in
theorem dX1_applyOne_273 : decode cX1_applyOne 273 = .ok (.iconst 1, 1) := by decide +kernel
set_option maxRecDepth 20000 in
theorem dX1_applyOne_274 : decode cX1_applyOne 274 = .ok (.invokevirtual 85, 3) := by decide +kernel
set_option maxRecDepth 20000 in
theorem dX1_applyOne_277 : decode cX1_applyOne 277 = .ok (.ifCond .eq 62, 3) := by decide +kernel
set_option maxRecDepth 20000 in
theorem dX1_applyOne_280 : decode cX1_applyOne 280 = .ok (.aload_n 0, 1) := by decide +kernel
set_option maxRecDepth 20000 in
theorem dX1_applyOne_281 : decode cX1_applyOne 281 = .ok (.getfield 26, 3) := by decide +kernel
set_option maxRecDepth 20000 in
theorem dX1_applyOne_284 : decode cX1_applyOne 284 = .ok (.iload_n 2, 1) := by decide +kernel
set_option maxRecDepth 20000 in
theorem dX1_applyOne_285 : decode cX1_applyOne 285 = .ok (.iconst 0, 1) := by decide +kernel
set_option maxRecDepth 20000 in
theorem dX1_applyOne_286 : decode cX1_applyOne 286 = .ok (.invokevirtual 139, 3) := by decide +kernel
set_option maxRecDepth 20000 in
theorem dX1_applyOne_289 : decode cX1_applyOne 289 = .ok (.aload_n 0, 1) := by decide +kernel
set_option maxRecDepth 20000 in
theorem dX1_applyOne_290 : decode cX1_applyOne 290 = .ok (.getfield 37, 3) := by decide +kernel
set_option maxRecDepth 20000 in
theorem dX1_applyOne_293 : decode cX1_applyOne 293 = .ok (.iload_n 3, 1) := by decide +kernel
set_option maxRecDepth 20000 in
theorem dX1_applyOne_294 : decode cX1_applyOne 294 = .ok (.iconst 0, 1) := by decide +kernel
set_option maxRecDepth 20000 in
theorem dX1_applyOne_295 : decode cX1_applyOne 295 = .ok (.invokevirtual 139, 3) := by decide +kernel
set_option maxRecDepth 20000 in
theorem dX1_applyOne_298 : decode cX1_applyOne 298 = .ok (.goto 41, 3) := by decide +kernel
set_option maxRecDepth 20000 in
theorem dX1_applyOne_301 : decode cX1_applyOne 301 = .ok (.aload_n 0, 1) := by decide +kernel
set_option maxRecDepth 20000 in
theorem dX1_applyOne_302 : decode cX1_applyOne 302 = .ok (.getfield 26, 3) := by decide +kernel
set_option maxRecDepth 20000 in
theorem dX1_applyOne_305 : decode cX1_applyOne 305 = .ok (.iload 4, 2) := by decide +kernel
set_option maxRecDepth 20000 in
theorem dX1_applyOne_307 : decode cX1_applyOne 307 = .ok (.invokevirtual 136, 3) := by decide +kernel
set_option maxRecDepth 20000 in
theorem dX1_applyOne_310 : decode cX1_applyOne 310 = .ok (.iconst 1, 1) := by decide +kernel
set_option maxRecDepth 20000 in
theorem dX1_applyOne_311 : decode cX1_applyOne 311 = .ok (.if_icmp .ne 28, 3) := by decide +kernel
set_option maxRecDepth 20000 in
theorem dX1_applyOne_314 : decode cX1_applyOne 314 = .ok (.aload_n 0, 1) := by decide +kernel
set_option maxRecDepth 20000 in
theorem dX1_applyOne_315 : decode cX1_applyOne 315 = .ok (.getfield 37, 3) := by decide +kernel
set_option maxRecDepth 20000 in
theorem dX1_applyOne_318 : decode cX1_applyOne 318 = .ok (.iload_n 2, 1) := by decide +kernel
set_option maxRecDepth 20000 in
theorem dX1_applyOne_319 : decode cX1_applyOne 319 = .ok (.iconst 1, 1) := by decide +kernel
set_option maxRecDepth 20000 in
theorem dX1_applyOne_320 : decode cX1_applyOne 320 = .ok (.invokevirtual 85, 3) := by decide +kernel
set_option maxRecDepth 20000 in
theorem dX1_applyOne_323 : decode cX1_applyOne 323 = .ok (.ifCond .eq 16, 3) := by decide +kernel
set_option maxRecDepth 20000 in
theorem dX1_applyOne_326 : decode cX1_applyOne 326 = .ok (.aload_n 0, 1) := by decide +kernel
set_option maxRecDepth 20000 in
theorem dX1_applyOne_327 : decode cX1_applyOne 327 = .ok (.aload_n 0, 1) := by decide +kernel
set_option maxRecDepth 20000 in
theorem dX1_applyOne_328 : decode cX1_applyOne 328 = .ok (.getfield 37, 3) := by decide +kernel
set_option maxRecDepth 20000 in
theorem dX1_applyOne_331 : decode cX1_applyOne 331 = .ok (.iload_n 2, 1) := by decide +kernel
set_option maxRecDepth 20000 in
theorem dX1_applyOne_332 : decode cX1_applyOne 332 = .ok (.invokevirtual 136, 3) := by decide +kernel
set_option maxRecDepth 20000 in
theorem dX1_applyOne_335 : decode cX1_applyOne 335 = .ok (.iload_n 3, 1) := by decide +kernel
set_option maxRecDepth 20000 in
theorem dX1_applyOne_336 : decode cX1_applyOne 336 = .ok (.invokevirtual 146, 3) := by decide +kernel
set_option maxRecDepth 20000 in
theorem dX1_applyOne_339 : decode cX1_applyOne 339 = .ok (.return_, 1) := by decide +kernel
set_option maxRecDepth 20000 in
theorem dX1_nearer_0 : decode cX1_nearer 0 = .ok (.iload_n 0, 1) := by decide +kernel
set_option maxRecDepth 20000 in
theorem dX1_nearer_1 : decode cX1_nearer 1 = .ok (.iload_n 1, 1) := by decide +kernel
set_option maxRecDepth 20000 in
theorem dX1_nearer_2 : decode cX1_nearer 2 = .ok (.if_icmp .ge 13, 3) := by decide +kernel
set_option maxRecDepth 20000 in
theorem dX1_nearer_5 : decode cX1_nearer 5 = .ok (.iload_n 0, 1) := by decide +kernel
set_option maxRecDepth 20000 in
theorem dX1_nearer_6 : decode cX1_nearer 6 = .ok (.iload_n 2, 1) := by decide +kernel
set_option maxRecDepth 20000 in
theorem dX1_nearer_7 : decode cX1_nearer 7 = .ok (.iadd, 1) := by decide +kernel
set_option maxRecDepth 20000 in
theorem dX1_nearer_8 : decode cX1_nearer 8 = .ok (.iload_n 1, 1) := by decide +kernel
set_option maxRecDepth 20000 in
theorem dX1_nearer_9 : decode cX1_nearer 9 = .ok (.invokestatic 149, 3) := by decide +kernel
set_option maxRecDepth 20000 in
theorem dX1_nearer_12 : decode cX1_nearer 12 = .ok (.goto 10, 3) := by decide +kernel
set_option maxRecDepth 20000 in
theorem dX1_nearer_15 : decode cX1_nearer 15 = .ok (.iload_n 0, 1) := by decide +kernel
set_option maxRecDepth 20000 in
theorem dX1_nearer_16 : decode cX1_nearer 16 = .ok (.iload_n 2, 1) := by decide +kernel
set_option maxRecDepth 20000 in
theorem dX1_nearer_17 : decode cX1_nearer 17 = .ok (.isub, 1) := by decide +kernel
set_option maxRecDepth 20000 in
theorem dX1_nearer_18 : decode cX1_nearer 18 = .ok (.iload_n 1, 1) := by decide +kernel
set_option maxRecDepth 20000 in
theorem dX1_nearer_19 : decode cX1_nearer 19 = .ok (.invokestatic 155, 3) := by decide +kernel
set_option maxRecDepth 20000 in
theorem dX1_nearer_22 : decode cX1_nearer 22 = .ok (.ireturn, 1) := by decide +kernel
set_option maxRecDepth 20000 in
theorem dX1_pour_0 : decode cX1_pour 0 = .ok (.aload_n 0, 1) := by decide +kernel
set_option maxRecDepth 20000 in
theorem dX1_pour_1 : decode cX1_pour 1 = .ok (.getfield 53, 3) := by decide +kernel
set_option maxRecDepth 20000 in
theorem dX1_pour_4 : decode cX1_pour 4 = .ok (.iload_n 2, 1) := by decide +kernel
set_option maxRecDepth 20000 in
theorem dX1_pour_5 : decode cX1_pour 5 = .ok (.invokevirtual 158, 3) := by decide +kernel
set_option maxRecDepth 20000 in
theorem dX1_pour_8 : decode cX1_pour 8 = .ok (.astore_n 3, 1) := by decide +kernel
set_option maxRecDepth 20000 in
theorem dX1_pour_9 : decode cX1_pour 9 = .ok (.aload_n 3, 1) := by decide +kernel
set_option maxRecDepth 20000 in
theorem dX1_pour_10 : decode cX1_pour 10 = .ok (.ifnull 8, 3) := by decide +kernel
set_option maxRecDepth 20000 in
theorem dX1_pour_13 : decode cX1_pour 13 = .ok (.aload_n 3, 1) := by decide +kernel
set_option maxRecDepth 20000 in
theorem dX1_pour_14 : decode cX1_pour 14 = .ok (.iload_n 1, 1) := by decide +kernel
set_option maxRecDepth 20000 in
theorem dX1_pour_15 : decode cX1_pour 15 = .ok (.invokevirtual 110, 3) := by decide +kernel
set_option maxRecDepth 20000 in
theorem dX1_pour_18 : decode cX1_pour 18 = .ok (.return_, 1) := by decide +kernel
set_option maxRecDepth 20000 in
theorem dX2_init_0 : decode cX2_init 0 = .ok (.aload_n 0, 1) := by decide +kernel
set_option maxRecDepth 20000 in
theorem dX2_init_1 : decode cX2_init 1 = .ok (.invokespecial 3, 3) := by decide +kernel
set_option maxRecDepth 20000 in
theorem dX2_init_4 : decode cX2_init 4 = .ok (.aload_n 0, 1) := by decide +kernel
set_option maxRecDepth 20000 in
theorem dX2_init_5 : decode cX2_init 5 = .ok (.new 9, 3) := by decide +kernel
set_option maxRecDepth 20000 in
theorem dX2_init_8 : decode cX2_init 8 = .ok (.dup, 1) := by decide +kernel
set_option maxRecDepth 20000 in
theorem dX2_init_9 : decode cX2_init 9 = .ok (.sipush 253, 3) := by decide +kernel
set_option maxRecDepth 20000 in
theorem dX2_init_12 : decode cX2_init 12 = .ok (.invokespecial 11, 3) := by decide +kernel
set_option maxRecDepth 20000 in
theorem dX2_init_15 : decode cX2_init 15 = .ok (.putfield 14, 3) := by decide +kernel
set_option maxRecDepth 20000 in
theorem dX2_init_18 : decode cX2_init 18 = .ok (.return_, 1) := by decide +kernel
set_option maxRecDepth 20000 in
theorem dX3_init_0 : decode cX3_init 0 = .ok (.aload_n 0, 1) := by decide +kernel
set_option maxRecDepth 20000 in
theorem dX3_init_1 : decode cX3_init 1 = .ok (.invokespecial 3, 3) := by decide +kernel
set_option maxRecDepth 20000 in
theorem dX3_init_4 : decode cX3_init 4 = .ok (.aload_n 0, 1) := by decide +kernel
set_option maxRecDepth 20000 in
theorem dX3_init_5 : decode cX3_init 5 = .ok (.new 9, 3) := by decide +kernel
set_option maxRecDepth 20000 in
theorem dX3_init_8 : decode cX3_init 8 = .ok (.dup, 1) := by decide +kernel
set_option maxRecDepth 20000 in
theorem dX3_init_9 : decode cX3_init 9 = .ok (.invokespecial 11, 3) := by decide +kernel
set_option maxRecDepth 20000 in
theorem dX3_init_12 : decode cX3_init 12 = .ok (.putfield 12, 3) := by decide +kernel
set_option maxRecDepth 20000 in
theorem dX3_init_15 : decode cX3_init 15 = .ok (.aload_n 0, 1) := by decide +kernel
set_option maxRecDepth 20000 in
theorem dX3_init_16 : decode cX3_init 16 = .ok (.iconst 0, 1) := by decide +kernel
set_option maxRecDepth 20000 in
theorem dX3_init_17 : decode cX3_init 17 = .ok (.putfield 18, 3) := by decide +kernel
set_option maxRecDepth 20000 in
theorem dX3_init_20 : decode cX3_init 20 = .ok (.aload_n 0, 1) := by decide +kernel
set_option maxRecDepth 20000 in
theorem dX3_init_21 : decode cX3_init 21 = .ok (.iconst 3, 1) := by decide +kernel
set_option maxRecDepth 20000 in
theorem dX3_init_22 : decode cX3_init 22 = .ok (.putfield 22, 3) := by decide +kernel
set_option maxRecDepth 20000 in
theorem dX3_init_25 : decode cX3_init 25 = .ok (.aload_n 0, 1) := by decide +kernel
set_option maxRecDepth 20000 in
theorem dX3_init_26 : decode cX3_init 26 = .ok (.sipush 200, 3) := by decide +kernel
set_option maxRecDepth 20000 in
theorem dX3_init_29 : decode cX3_init 29 = .ok (.putfield 25, 3) := by decide +kernel
set_option maxRecDepth 20000 in
theorem dX3_init_32 : decode cX3_init 32 = .ok (.aload_n 0, 1) := by decide +kernel
set_option maxRecDepth 20000 in
theorem dX3_init_33 : decode cX3_init 33 = .ok (.bipush 40, 2) := by decide +kernel
set_option maxRecDepth 20000 in
theorem dX3_init_35 : decode cX3_init 35 = .ok (.putfield 28, 3) := by decide +kernel
set_option maxRecDepth 20000 in
theorem dX3_init_38 : decode cX3_init 38 = .ok (.aload_n 0, 1) := by decide +kernel
set_option maxRecDepth 20000 in
theorem dX3_init_39 : decode cX3_init 39 = .ok (.bipush 16, 2) := by decide +kernel
set_option maxRecDepth 20000 in
theorem dX3_init_41 : decode cX3_init 41 = .ok (.anewarray 31, 3) := by decide +kernel
set_option maxRecDepth 20000 in
theorem dX3_init_44 : decode cX3_init 44 = .ok (.putfield 33, 3) := by decide +kernel
set_option maxRecDepth 20000 in
theorem dX3_init_47 : decode cX3_init 47 = .ok (.aload_n 0, 1) := by decide +kernel
set_option maxRecDepth 20000 in
theorem dX3_init_48 : decode cX3_init 48 = .ok (.bipush 32, 2) := by decide +kernel
set_option maxRecDepth 20000 in
theorem dX3_init_50 : decode cX3_init 50 = .ok (.anewarray 31, 3) := by decide +kernel
set_option maxRecDepth 20000 in
theorem dX3_init_53 : decode cX3_init 53 = .ok (.putfield 37, 3) := by decide +kernel
set_option maxRecDepth 20000 in
theorem dX3_init_56 : decode cX3_init 56 = .ok (.aload_n 0, 1) := by decide +kernel
set_option maxRecDepth 20000 in
theorem dX3_init_57 : decode cX3_init 57 = .ok (.bipush 8, 2) := by decide +kernel
set_option maxRecDepth 20000 in
theorem dX3_init_59 : decode cX3_init 59 = .ok (.anewarray 40, 3) := by decide +kernel
set_option maxRecDepth 20000 in
theorem dX3_init_62 : decode cX3_init 62 = .ok (.putfield 42, 3) := by decide +kernel
set_option maxRecDepth 20000 in
theorem dX3_init_65 : decode cX3_init 65 = .ok (.return_, 1) := by decide +kernel
set_option maxRecDepth 20000 in
theorem dX3_firstRequest_0 : decode cX3_firstRequest 0 = .ok (.aload_n 0, 1) := by decide +kernel
set_option maxRecDepth 20000 in
theorem dX3_firstRequest_1 : decode cX3_firstRequest 1 = .ok (.getfield 46, 3) := by decide +kernel
set_option maxRecDepth 20000 in
theorem dX3_firstRequest_4 : decode cX3_firstRequest 4 = .ok (.ifCond .le 24, 3) := by decide +kernel
set_option maxRecDepth 20000 in
theorem dX3_firstRequest_7 : decode cX3_firstRequest 7 = .ok (.aload_n 0, 1) := by decide +kernel
set_option maxRecDepth 20000 in
theorem dX3_firstRequest_8 : decode cX3_firstRequest 8 = .ok (.getfield 49, 3) := by decide +kernel
set_option maxRecDepth 20000 in
theorem dX3_firstRequest_11 : decode cX3_firstRequest 11 = .ok (.bipush 16, 2) := by decide +kernel
set_option maxRecDepth 20000 in
theorem dX3_firstRequest_13 : decode cX3_firstRequest 13 = .ok (.if_icmp .ge 15, 3) := by decide +kernel
set_option maxRecDepth 20000 in
theorem dX3_firstRequest_16 : decode cX3_firstRequest 16 = .ok (.aload_n 0, 1) := by decide +kernel
set_option maxRecDepth 20000 in
theorem dX3_firstRequest_17 : decode cX3_firstRequest 17 = .ok (.getfield 33, 3) := by decide +kernel
set_option maxRecDepth 20000 in
theorem dX3_firstRequest_20 : decode cX3_firstRequest 20 = .ok (.aload_n 0, 1) := by decide +kernel
set_option maxRecDepth 20000 in
theorem dX3_firstRequest_21 : decode cX3_firstRequest 21 = .ok (.getfield 49, 3) := by decide +kernel
set_option maxRecDepth 20000 in
theorem dX3_firstRequest_24 : decode cX3_firstRequest 24 = .ok (.aaload, 1) := by decide +kernel
set_option maxRecDepth 20000 in
theorem dX3_firstRequest_25 : decode cX3_firstRequest 25 = .ok (.goto 4, 3) := by decide +kernel
set_option maxRecDepth 20000 in
theorem dX3_firstRequest_28 : decode cX3_firstRequest 28 = .ok (.aconst_null, 1) := by decide +kernel
set_option maxRecDepth 20000 in
theorem dX3_firstRequest_29 : decode cX3_firstRequest 29 = .ok (.areturn, 1) := by decide +kernel
set_option maxRecDepth 20000 in
theorem dX3_firstResult_0 : decode cX3_firstResult 0 = .ok (.aload_n 0, 1) := by decide +kernel
set_option maxRecDepth 20000 in
theorem dX3_firstResult_1 : decode cX3_firstResult 1 = .ok (.getfield 52, 3) := by decide +kernel
set_option maxRecDepth 20000 in
theorem dX3_firstResult_4 : decode cX3_firstResult 4 = .ok (.ifCond .le 24, 3) := by decide +kernel
set_option maxRecDepth 20000 in
theorem dX3_firstResult_7 : decode cX3_firstResult 7 = .ok (.aload_n 0, 1) := by decide +kernel
set_option maxRecDepth 20000 in
theorem dX3_firstResult_8 : decode cX3_firstResult 8 = .ok (.getfield 55, 3) := by decide +kernel
set_option maxRecDepth 20000 in
theorem dX3_firstResult_11 : decode cX3_firstResult 11 = .ok (.bipush 32, 2) := by decide +kernel
set_option maxRecDepth 20000 in
theorem dX3_firstResult_13 : decode cX3_firstResult 13 = .ok (.if_icmp .ge 15, 3) := by decide +kernel
set_option maxRecDepth 20000 in
theorem dX3_firstResult_16 : decode cX3_firstResult 16 = .ok (.aload_n 0, 1) := by decide +kernel
set_option maxRecDepth 20000 in
theorem dX3_firstResult_17 : decode cX3_firstResult 17 = .ok (.getfield 37, 3) := by decide +kernel
set_option maxRecDepth 20000 in
theorem dX3_firstResult_20 : decode cX3_firstResult 20 = .ok (.aload_n 0, 1) := by decide +kernel
set_option maxRecDepth 20000 in
theorem dX3_firstResult_21 : decode cX3_firstResult 21 = .ok (.getfield 55, 3) := by decide +kernel
set_option maxRecDepth 20000 in
theorem dX3_firstResult_24 : decode cX3_firstResult 24 = .ok (.aaload, 1) := by decide +kernel
set_option maxRecDepth 20000 in
theorem dX3_firstResult_25 : decode cX3_firstResult 25 = .ok (.goto 4, 3) := by decide +kernel
set_option maxRecDepth 20000 in
theorem dX3_firstResult_28 : decode cX3_firstResult 28 = .ok (.aconst_null, 1) := by decide +kernel
set_option maxRecDepth 20000 in
theorem dX3_firstResult_29 : decode cX3_firstResult 29 = .ok (.areturn, 1) := by decide +kernel
set_option maxRecDepth 20000 in
theorem dX3_dropResult_0 : decode cX3_dropResult 0 = .ok (.aload_n 0, 1) := by decide +kernel
set_option maxRecDepth 20000 in
theorem dX3_dropResult_1 : decode cX3_dropResult 1 = .ok (.getfield 52, 3) := by decide +kernel
set_option maxRecDepth 20000 in
theorem dX3_dropResult_4 : decode cX3_dropResult 4 = .ok (.ifCond .ne 5, 3) := by decide +kernel
set_option maxRecDepth 20000 in
theorem dX3_dropResult_7 : decode cX3_dropResult 7 = .ok (.iconst 0, 1) := by decide +kernel
set_option maxRecDepth 20000 in
theorem dX3_dropResult_8 : decode cX3_dropResult 8 = .ok (.ireturn, 1) := by decide +kernel
set_option maxRecDepth 20000 in
theorem dX3_dropResult_9 : decode cX3_dropResult 9 = .ok (.aload_n 0, 1) := by decide +kernel
set_option maxRecDepth 20000 in
theorem dX3_dropResult_10 : decode cX3_dropResult 10 = .ok (.aload_n 0, 1) := by decide +kernel
set_option maxRecDepth 20000 in
theorem dX3_dropResult_11 : decode cX3_dropResult 11 = .ok (.getfield 55, 3) := by decide +kernel
set_option maxRecDepth 20000 in
theorem dX3_dropResult_14 : decode cX3_dropResult 14 = .ok (.iconst 1, 1) := by decide +kernel
set_option maxRecDepth 20000 in
theorem dX3_dropResult_15 : decode cX3_dropResult 15 = .ok (.iadd, 1) := by decide +kernel
set_option maxRecDepth 20000 in
theorem dX3_dropResult_16 : decode cX3_dropResult 16 = .ok (.bipush 32, 2) := by decide +kernel
set_option maxRecDepth 20000 in
theorem dX3_dropResult_18 : decode cX3_dropResult 18 = .ok (.irem, 1) := by decide +kernel
set_option maxRecDepth 20000 in
theorem dX3_dropResult_19 : decode cX3_dropResult 19 = .ok (.putfield 55, 3) := by decide +kernel
set_option maxRecDepth 20000 in
theorem dX3_dropResult_22 : decode cX3_dropResult 22 = .ok (.aload_n 0, 1) := by decide +kernel
set_option maxRecDepth 20000 in
theorem dX3_dropResult_23 : decode cX3_dropResult 23 = .ok (.dup, 1) := by decide +kernel
set_option maxRecDepth 20000 in
theorem dX3_dropResult_24 : decode cX3_dropResult 24 = .ok (.getfield 52, 3) := by decide +kernel
set_option maxRecDepth 20000 in
theorem dX3_dropResult_27 : decode cX3_dropResult 27 = .ok (.iconst 1, 1) := by decide +kernel
set_option maxRecDepth 20000 in
theorem dX3_dropResult_28 : decode cX3_dropResult 28 = .ok (.isub, 1) := by decide +kernel
set_option maxRecDepth 20000 in
theorem dX3_dropResult_29 : decode cX3_dropResult 29 = .ok (.putfield 52, 3) := by decide +kernel
set_option maxRecDepth 20000 in
theorem dX3_dropResult_32 : decode cX3_dropResult 32 = .ok (.iconst 1, 1) := by decide +kernel
set_option maxRecDepth 20000 in
theorem dX3_dropResult_33 : decode cX3_dropResult 33 = .ok (.ireturn, 1) := by decide +kernel
set_option maxRecDepth 20000 in
theorem dX3_addRequest_0 : decode cX3_addRequest 0 = .ok (.aload_n 0, 1) := by decide +kernel
set_option maxRecDepth 20000 in
theorem dX3_addRequest_1 : decode cX3_addRequest 1 = .ok (.getfield 46, 3) := by decide +kernel
set_option maxRecDepth 20000 in
theorem dX3_addRequest_4 : decode cX3_addRequest 4 = .ok (.bipush 16, 2) := by decide +kernel
set_option maxRecDepth 20000 in
theorem dX3_addRequest_6 : decode cX3_addRequest 6 = .ok (.if_icmp .lt 5, 3) := by decide +kernel
set_option maxRecDepth 20000 in
theorem dX3_addRequest_9 : decode cX3_addRequest 9 = .ok (.iconst (-1), 1) := by decide +kernel
set_option maxRecDepth 20000 in
theorem dX3_addRequest_10 : decode cX3_addRequest 10 = .ok (.ireturn, 1) := by decide +kernel
set_option maxRecDepth 20000 in
theorem dX3_addRequest_11 : decode cX3_addRequest 11 = .ok (.aload_n 0, 1) := by decide +kernel
set_option maxRecDepth 20000 in
theorem dX3_addRequest_12 : decode cX3_addRequest 12 = .ok (.getfield 49, 3) := by decide +kernel
set_option maxRecDepth 20000 in
theorem dX3_addRequest_15 : decode cX3_addRequest 15 = .ok (.aload_n 0, 1) := by decide +kernel
set_option maxRecDepth 20000 in
theorem dX3_addRequest_16 : decode cX3_addRequest 16 = .ok (.getfield 46, 3) := by decide +kernel
set_option maxRecDepth 20000 in
theorem dX3_addRequest_19 : decode cX3_addRequest 19 = .ok (.iadd, 1) := by decide +kernel
set_option maxRecDepth 20000 in
theorem dX3_addRequest_20 : decode cX3_addRequest 20 = .ok (.bipush 16, 2) := by decide +kernel
set_option maxRecDepth 20000 in
theorem dX3_addRequest_22 : decode cX3_addRequest 22 = .ok (.irem, 1) := by decide +kernel
set_option maxRecDepth 20000 in
theorem dX3_addRequest_23 : decode cX3_addRequest 23 = .ok (.istore_n 3, 1) := by decide +kernel
set_option maxRecDepth 20000 in
theorem dX3_addRequest_24 : decode cX3_addRequest 24 = .ok (.aload_n 0, 1) := by decide +kernel
set_option maxRecDepth 20000 in
theorem dX3_addRequest_25 : decode cX3_addRequest 25 = .ok (.getfield 33, 3) := by decide +kernel
set_option maxRecDepth 20000 in
theorem dX3_addRequest_28 : decode cX3_addRequest 28 = .ok (.iload_n 3, 1) := by decide +kernel
set_option maxRecDepth 20000 in
theorem dX3_addRequest_29 : decode cX3_addRequest 29 = .ok (.aaload, 1) := by decide +kernel
set_option maxRecDepth 20000 in
theorem dX3_addRequest_30 : decode cX3_addRequest 30 = .ok (.astore 4, 2) := by decide +kernel
set_option maxRecDepth 20000 in
theorem dX3_addRequest_32 : decode cX3_addRequest 32 = .ok (.aload 4, 2) := by decide +kernel
set_option maxRecDepth 20000 in
theorem dX3_addRequest_34 : decode cX3_addRequest 34 = .ok (.ifnonnull 20, 3) := by decide +kernel
set_option maxRecDepth 20000 in
theorem dX3_addRequest_37 : decode cX3_addRequest 37 = .ok (.new 31, 3) := by decide +kernel
set_option maxRecDepth 20000 in
theorem dX3_addRequest_40 : decode cX3_addRequest 40 = .ok (.dup, 1) := by decide +kernel
set_option maxRecDepth 20000 in
theorem dX3_addRequest_41 : decode cX3_addRequest 41 = .ok (.invokespecial 58, 3) := by decide +kernel
set_option maxRecDepth 20000 in
theorem dX3_addRequest_44 : decode cX3_addRequest 44 = .ok (.astore 4, 2) := by decide +kernel
set_option maxRecDepth 20000 in
theorem dX3_addRequest_46 : decode cX3_addRequest 46 = .ok (.aload_n 0, 1) := by decide +kernel
set_option maxRecDepth 20000 in
theorem dX3_addRequest_47 : decode cX3_addRequest 47 = .ok (.getfield 33, 3) := by decide +kernel
set_option maxRecDepth 20000 in
theorem dX3_addRequest_50 : decode cX3_addRequest 50 = .ok (.iload_n 3, 1) := by decide +kernel
set_option maxRecDepth 20000 in
theorem dX3_addRequest_51 : decode cX3_addRequest 51 = .ok (.aload 4, 2) := by decide +kernel
set_option maxRecDepth 20000 in
theorem dX3_addRequest_53 : decode cX3_addRequest 53 = .ok (.aastore, 1) := by decide +kernel
set_option maxRecDepth 20000 in
theorem dX3_addRequest_54 : decode cX3_addRequest 54 = .ok (.aload_n 0, 1) := by decide +kernel
set_option maxRecDepth 20000 in
theorem dX3_addRequest_55 : decode cX3_addRequest 55 = .ok (.dup, 1) := by decide +kernel
set_option maxRecDepth 20000 in
theorem dX3_addRequest_56 : decode cX3_addRequest 56 = .ok (.getfield 46, 3) := by decide +kernel
set_option maxRecDepth 20000 in
theorem dX3_addRequest_59 : decode cX3_addRequest 59 = .ok (.iconst 1, 1) := by decide +kernel
set_option maxRecDepth 20000 in
theorem dX3_addRequest_60 : decode cX3_addRequest 60 = .ok (.iadd, 1) := by decide +kernel
set_option maxRecDepth 20000 in
theorem dX3_addRequest_61 : decode cX3_addRequest 61 = .ok (.putfield 46, 3) := by decide +kernel
set_option maxRecDepth 20000 in
theorem dX3_addRequest_64 : decode cX3_addRequest 64 = .ok (.aload 4, 2) := by decide +kernel
set_option maxRecDepth 20000 in
theorem dX3_addRequest_66 : decode cX3_addRequest 66 = .ok (.aload_n 0, 1) := by decide +kernel
set_option maxRecDepth 20000 in
theorem dX3_addRequest_67 : decode cX3_addRequest 67 = .ok (.getfield 59, 3) := by decide +kernel
set_option maxRecDepth 20000 in
theorem dX3_addRequest_70 : decode cX3_addRequest 70 = .ok (.putfield 62, 3) := by decide +kernel
set_option maxRecDepth 20000 in
theorem dX3_addRequest_73 : decode cX3_addRequest 73 = .ok (.aload 4, 2) := by decide +kernel
set_option maxRecDepth 20000 in
theorem dX3_addRequest_75 : decode cX3_addRequest 75 = .ok (.iload_n 1, 1) := by decide +kernel
set_option maxRecDepth 20000 in
theorem dX3_addRequest_76 : decode cX3_addRequest 76 = .ok (.putfield 65, 3) := by decide +kernel
set_option maxRecDepth 20000 in
theorem dX3_addRequest_79 : decode cX3_addRequest 79 = .ok (.aload 4, 2) := by decide +kernel
set_option maxRecDepth 20000 in
theorem dX3_addRequest_81 : decode cX3_addRequest 81 = .ok (.iconst 0, 1) := by decide +kernel
set_option maxRecDepth 20000 in
theorem dX3_addRequest_82 : decode cX3_addRequest 82 = .ok (.putfield 68, 3) := by decide +kernel
set_option maxRecDepth 20000 in
theorem dX3_addRequest_85 : decode cX3_addRequest 85 = .ok (.aload 4, 2) := by decide +kernel
set_option maxRecDepth 20000 in
theorem dX3_addRequest_87 : decode cX3_addRequest 87 = .ok (.getfield 71, 3) := by decide +kernel
set_option maxRecDepth 20000 in
theorem dX3_addRequest_90 : decode cX3_addRequest 90 = .ok (.aload_n 2, 1) := by decide +kernel
set_option maxRecDepth 20000 in
theorem dX3_addRequest_91 : decode cX3_addRequest 91 = .ok (.iconst 0, 1) := by decide +kernel
set_option maxRecDepth 20000 in
theorem dX3_addRequest_92 : decode cX3_addRequest 92 = .ok (.aload_n 2, 1) := by decide +kernel
set_option maxRecDepth 20000 in
theorem dX3_addRequest_93 : decode cX3_addRequest 93 = .ok (.getfield 75, 3) := by decide +kernel
set_option maxRecDepth 20000 in
theorem dX3_addRequest_96 : decode cX3_addRequest 96 = .ok (.invokevirtual 80, 3) := by decide +kernel
set_option maxRecDepth 20000 in
theorem dX3_addRequest_99 : decode cX3_addRequest 99 = .ok (.aload_n 0, 1) := by decide +kernel
set_option maxRecDepth 20000 in
theorem dX3_addRequest_100 : decode cX3_addRequest 100 = .ok (.dup, 1) := by decide +kernel
set_option maxRecDepth 20000 in
theorem dX3_addRequest_101 : decode cX3_addRequest 101 = .ok (.getfield 59, 3) := by decide +kernel
set_option maxRecDepth 20000 in
theorem dX3_addRequest_104 : decode cX3_addRequest 104 = .ok (.iconst 1, 1) := by decide +kernel
set_option maxRecDepth 20000 in
theorem dX3_addRequest_105 : decode cX3_addRequest 105 = .ok (.iadd, 1) := by decide +kernel
set_option maxRecDepth 20000 in
theorem dX3_addRequest_106 : decode cX3_addRequest 106 = .ok (.putfield 59, 3) := by decide +kernel
set_option maxRecDepth 20000 in
theorem dX3_addRequest_109 : decode cX3_addRequest 109 = .ok (.aload 4, 2) := by decide +kernel
set_option maxRecDepth 20000 in
theorem dX3_addRequest_111 : decode cX3_addRequest 111 = .ok (.getfield 62, 3) := by decide +kernel
set_option maxRecDepth 20000 in
theorem dX3_addRequest_114 : decode cX3_addRequest 114 = .ok (.ireturn, 1) := by decide +kernel
set_option maxRecDepth 20000 in
theorem dX3_addScan_0 : decode cX3_addScan 0 = .ok (.aload_n 0, 1) := by decide +kernel
set_option maxRecDepth 20000 in
theorem dX3_addScan_1 : decode cX3_addScan 1 = .ok (.getfield 84, 3) := by decide +kernel
set_option maxRecDepth 20000 in
theorem dX3_addScan_4 : decode cX3_addScan 4 = .ok (.bipush 8, 2) := by decide +kernel
set_option maxRecDepth 20000 in
theorem dX3_addScan_6 : decode cX3_addScan 6 = .ok (.if_icmp .lt 5, 3) := by decide +kernel
set_option maxRecDepth 20000 in
theorem dX3_addScan_9 : decode cX3_addScan 9 = .ok (.iconst (-1), 1) := by decide +kernel
set_option maxRecDepth 20000 in
theorem dX3_addScan_10 : decode cX3_addScan 10 = .ok (.ireturn, 1) := by decide +kernel
set_option maxRecDepth 20000 in
theorem dX3_addScan_11 : decode cX3_addScan 11 = .ok (.aload_n 0, 1) := by decide +kernel
set_option maxRecDepth 20000 in
theorem dX3_addScan_12 : decode cX3_addScan 12 = .ok (.getfield 42, 3) := by decide +kernel
set_option maxRecDepth 20000 in
theorem dX3_addScan_15 : decode cX3_addScan 15 = .ok (.aload_n 0, 1) := by decide +kernel
set_option maxRecDepth 20000 in
theorem dX3_addScan_16 : decode cX3_addScan 16 = .ok (.getfield 84, 3) := by decide +kernel
set_option maxRecDepth 20000 in
theorem dX3_addScan_19 : decode cX3_addScan 19 = .ok (.new 40, 3) := by decide +kernel
set_option maxRecDepth 20000 in
theorem dX3_addScan_22 : decode cX3_addScan 22 = .ok (.dup, 1) := by decide +kernel
set_option maxRecDepth 20000 in
theorem dX3_addScan_23 : decode cX3_addScan 23 = .ok (.iload_n 1, 1) := by decide +kernel
set_option maxRecDepth 20000 in
theorem dX3_addScan_24 : decode cX3_addScan 24 = .ok (.iload_n 2, 1) := by decide +kernel
set_option maxRecDepth 20000 in
theorem dX3_addScan_25 : decode cX3_addScan 25 = .ok (.iload_n 3, 1) := by decide +kernel
set_option maxRecDepth 20000 in
theorem dX3_addScan_26 : decode cX3_addScan 26 = .ok (.aload 4, 2) := by decide +kernel
set_option maxRecDepth 20000 in
theorem dX3_addScan_28 : decode cX3_addScan 28 = .ok (.invokespecial 87, 3) := by decide +kernel
set_option maxRecDepth 20000 in
theorem dX3_addScan_31 : decode cX3_addScan 31 = .ok (.aastore, 1) := by decide +kernel
set_option maxRecDepth 20000 in
theorem dX3_addScan_32 : decode cX3_addScan 32 = .ok (.aload_n 0, 1) := by decide +kernel
set_option maxRecDepth 20000 in
theorem dX3_addScan_33 : decode cX3_addScan 33 = .ok (.dup, 1) := by decide +kernel
set_option maxRecDepth 20000 in
theorem dX3_addScan_34 : decode cX3_addScan 34 = .ok (.getfield 84, 3) := by decide +kernel
set_option maxRecDepth 20000 in
theorem dX3_addScan_37 : decode cX3_addScan 37 = .ok (.iconst 1, 1) := by decide +kernel
set_option maxRecDepth 20000 in
theorem dX3_addScan_38 : decode cX3_addScan 38 = .ok (.iadd, 1) := by decide +kernel
set_option maxRecDepth 20000 in
theorem dX3_addScan_39 : decode cX3_addScan 39 = .ok (.putfield 84, 3) := by decide +kernel
set_option maxRecDepth 20000 in
theorem dX3_addScan_42 : decode cX3_addScan 42 = .ok (.aload_n 0, 1) := by decide +kernel
set_option maxRecDepth 20000 in
theorem dX3_addScan_43 : decode cX3_addScan 43 = .ok (.getfield 84, 3) := by decide +kernel
set_option maxRecDepth 20000 in
theorem dX3_addScan_46 : decode cX3_addScan 46 = .ok (.iconst 1, 1) := by decide +kernel
set_option maxRecDepth 20000 in
theorem dX3_addScan_47 : decode cX3_addScan 47 = .ok (.isub, 1) := by decide +kernel
set_option maxRecDepth 20000 in
theorem dX3_addScan_48 : decode cX3_addScan 48 = .ok (.ireturn, 1) := by decide +kernel
set_option maxRecDepth 20000 in
theorem dX3_runScans_0 : decode cX3_runScans 0 = .ok (.iconst 0, 1) := by decide +kernel
set_option maxRecDepth 20000 in
theorem dX3_runScans_1 : decode cX3_runScans 1 = .ok (.istore_n 2, 1) := by decide +kernel
set_option maxRecDepth 20000 in
theorem dX3_runScans_2 : decode cX3_runScans 2 = .ok (.iload_n 2, 1) := by decide +kernel
set_option maxRecDepth 20000 in
theorem dX3_runScans_3 : decode cX3_runScans 3 = .ok (.aload_n 0, 1) := by decide +kernel
set_option maxRecDepth 20000 in
theorem dX3_runScans_4 : decode cX3_runScans 4 = .ok (.getfield 84, 3) := by decide +kernel
set_option maxRecDepth 20000 in
theorem dX3_runScans_7 : decode cX3_runScans 7 = .ok (.if_icmp .ge 80, 3) := by decide +kernel
set_option maxRecDepth 20000 in
theorem dX3_runScans_10 : decode cX3_runScans 10 = .ok (.aload_n 0, 1) := by decide +kernel
set_option maxRecDepth 20000 in
theorem dX3_runScans_11 : decode cX3_runScans 11 = .ok (.getfield 42, 3) := by decide +kernel
set_option maxRecDepth 20000 in
theorem dX3_runScans_14 : decode cX3_runScans 14 = .ok (.iload_n 2, 1) := by decide +kernel
set_option maxRecDepth 20000 in
theorem dX3_runScans_15 : decode cX3_runScans 15 = .ok (.aaload, 1) := by decide +kernel
set_option maxRecDepth 20000 in
theorem dX3_runScans_16 : decode cX3_runScans 16 = .ok (.astore_n 3, 1) := by decide +kernel
set_option maxRecDepth 20000 in
theorem dX3_runScans_17 : decode cX3_runScans 17 = .ok (.aload_n 3, 1) := by decide +kernel
set_option maxRecDepth 20000 in
theorem dX3_runScans_18 : decode cX3_runScans 18 = .ok (.ifnull 63, 3) := by decide +kernel
set_option maxRecDepth 20000 in
theorem dX3_runScans_21 : decode cX3_runScans 21 = .ok (.iload_n 1, 1) := by decide +kernel
set_option maxRecDepth 20000 in
theorem dX3_runScans_22 : decode cX3_runScans 22 = .ok (.aload_n 3, 1) := by decide +kernel
set_option maxRecDepth 20000 in
theorem dX3_runScans_23 : decode cX3_runScans 23 = .ok (.getfield 90, 3) := by decide +kernel
set_option maxRecDepth 20000 in
theorem dX3_runScans_26 : decode cX3_runScans 26 = .ok (.if_icmp .ge 6, 3) := by decide +kernel
set_option maxRecDepth 20000 in
theorem dX3_runScans_29 : decode cX3_runScans 29 = .ok (.goto 52, 3) := by decide +kernel
set_option maxRecDepth 20000 in
theorem dX3_runScans_32 : decode cX3_runScans 32 = .ok (.aload_n 3, 1) := by decide +kernel
set_option maxRecDepth 20000 in
theorem dX3_runScans_33 : decode cX3_runScans 33 = .ok (.dup, 1) := by decide +kernel
set_option maxRecDepth 20000 in
theorem dX3_runScans_34 : decode cX3_runScans 34 = .ok (.getfield 90, 3) := by decide +kernel
set_option maxRecDepth 20000 in
theorem dX3_runScans_37 : decode cX3_runScans 37 = .ok (.aload_n 3, 1) := by decide +kernel
set_option maxRecDepth 20000 in
theorem dX3_runScans_38 : decode cX3_runScans 38 = .ok (.getfield 93, 3) := by decide +kernel
set_option maxRecDepth 20000 in
theorem dX3_runScans_41 : decode cX3_runScans 41 = .ok (.iadd, 1) := by decide +kernel
set_option maxRecDepth 20000 in
theorem dX3_runScans_42 : decode cX3_runScans 42 = .ok (.putfield 90, 3) := by decide +kernel
set_option maxRecDepth 20000 in
theorem dX3_runScans_45 : decode cX3_runScans 45 = .ok (.aload_n 0, 1) := by decide +kernel
set_option maxRecDepth 20000 in
theorem dX3_runScans_46 : decode cX3_runScans 46 = .ok (.getfield 46, 3) := by decide +kernel
set_option maxRecDepth 20000 in
theorem dX3_runScans_49 : decode cX3_runScans 49 = .ok (.bipush 16, 2) := by decide +kernel
set_option maxRecDepth 20000 in
theorem dX3_runScans_51 : decode cX3_runScans 51 = .ok (.if_icmp .ge 30, 3) := by decide +kernel
set_option maxRecDepth 20000 in
theorem dX3_runScans_54 : decode cX3_runScans 54 = .ok (.aload_n 0, 1) := by decide +kernel
set_option maxRecDepth 20000 in
theorem dX3_runScans_55 : decode cX3_runScans 55 = .ok (.aload_n 3, 1) := by decide +kernel
set_option maxRecDepth 20000 in
theorem dX3_runScans_56 : decode cX3_runScans 56 = .ok (.getfield 96, 3) := by decide +kernel
set_option maxRecDepth 20000 in
theorem dX3_runScans_59 : decode cX3_runScans 59 = .ok (.invokevirtual 99, 3) := by decide +kernel
set_option maxRecDepth 20000 in
theorem dX3_runScans_62 : decode cX3_runScans 62 = .ok (.ifCond .ne 19, 3) := by decide +kernel
set_option maxRecDepth 20000 in
theorem dX3_runScans_65 : decode cX3_runScans 65 = .ok (.aload_n 3, 1) := by decide +kernel
set_option maxRecDepth 20000 in
theorem dX3_runScans_66 : decode cX3_runScans 66 = .ok (.aload_n 0, 1) := by decide +kernel
set_option maxRecDepth 20000 in
theorem dX3_runScans_67 : decode cX3_runScans 67 = .ok (.aload_n 3, 1) := by decide +kernel
set_option maxRecDepth 20000 in
theorem dX3_runScans_68 : decode cX3_runScans 68 = .ok (.getfield 103, 3) := by decide +kernel
set_option maxRecDepth 20000 in
theorem dX3_runScans_71 : decode cX3_runScans 71 = .ok (.aload_n 3, 1) := by decide +kernel
set_option maxRecDepth 20000 in
theorem dX3_runScans_72 : decode cX3_runScans 72 = .ok (.getfield 104, 3) := by decide +kernel
set_option maxRecDepth 20000 in
theorem dX3_runScans_75 : decode cX3_runScans 75 = .ok (.invokevirtual 105, 3) := by decide +kernel
set_option maxRecDepth 20000 in
theorem dX3_runScans_78 : decode cX3_runScans 78 = .ok (.putfield 96, 3) := by decide +kernel
set_option maxRecDepth 20000 in
theorem dX3_runScans_81 : decode cX3_runScans 81 = .ok (.iinc 2 1, 3) := by decide +kernel
set_option maxRecDepth 20000 in
theorem dX3_runScans_84 : decode cX3_runScans 84 = .ok (.goto (-82), 3) := by decide +kernel
set_option maxRecDepth 20000 in
theorem dX3_runScans_87 : decode cX3_runScans 87 = .ok (.return_, 1) := by decide +kernel
set_option maxRecDepth 20000 in
theorem dX3_isInRow_0 : decode cX3_isInRow 0 = .ok (.iconst 0, 1) := by decide +kernel
set_option maxRecDepth 20000 in
theorem dX3_isInRow_1 : decode cX3_isInRow 1 = .ok (.istore_n 2, 1) := by decide +kernel
set_option maxRecDepth 20000 in
theorem dX3_isInRow_2 : decode cX3_isInRow 2 = .ok (.iload_n 2, 1) := by decide +kernel
set_option maxRecDepth 20000 in
theorem dX3_isInRow_3 : decode cX3_isInRow 3 = .ok (.aload_n 0, 1) := by decide +kernel
set_option maxRecDepth 20000 in
theorem dX3_isInRow_4 : decode cX3_isInRow 4 = .ok (.getfield 46, 3) := by decide +kernel
set_option maxRecDepth 20000 in
theorem dX3_isInRow_7 : decode cX3_isInRow 7 = .ok (.if_icmp .ge 38, 3) := by decide +kernel
set_option maxRecDepth 20000 in
theorem dX3_isInRow_10 : decode cX3_isInRow 10 = .ok (.aload_n 0, 1) := by decide +kernel
set_option maxRecDepth 20000 in
theorem dX3_isInRow_11 : decode cX3_isInRow 11 = .ok (.getfield 33, 3) := by decide +kernel
set_option maxRecDepth 20000 in
theorem dX3_isInRow_14 : decode cX3_isInRow 14 = .ok (.aload_n 0, 1) := by decide +kernel
set_option maxRecDepth 20000 in
theorem dX3_isInRow_15 : decode cX3_isInRow 15 = .ok (.getfield 49, 3) := by decide +kernel
set_option maxRecDepth 20000 in
theorem dX3_isInRow_18 : decode cX3_isInRow 18 = .ok (.iload_n 2, 1) := by decide +kernel
set_option maxRecDepth 20000 in
theorem dX3_isInRow_19 : decode cX3_isInRow 19 = .ok (.iadd, 1) := by decide +kernel
set_option maxRecDepth 20000 in
theorem dX3_isInRow_20 : decode cX3_isInRow 20 = .ok (.bipush 16, 2) := by decide +kernel
set_option maxRecDepth 20000 in
theorem dX3_isInRow_22 : decode cX3_isInRow 22 = .ok (.irem, 1) := by decide +kernel
set_option maxRecDepth 20000 in
theorem dX3_isInRow_23 : decode cX3_isInRow 23 = .ok (.aaload, 1) := by decide +kernel
set_option maxRecDepth 20000 in
theorem dX3_isInRow_24 : decode cX3_isInRow 24 = .ok (.astore_n 3, 1) := by decide +kernel
set_option maxRecDepth 20000 in
theorem dX3_isInRow_25 : decode cX3_isInRow 25 = .ok (.aload_n 3, 1) := by decide +kernel
set_option maxRecDepth 20000 in
theorem dX3_isInRow_26 : decode cX3_isInRow 26 = .ok (.ifnull 13, 3) := by decide +kernel
set_option maxRecDepth 20000 in
theorem dX3_isInRow_29 : decode cX3_isInRow 29 = .ok (.aload_n 3, 1) := by decide +kernel
set_option maxRecDepth 20000 in
theorem dX3_isInRow_30 : decode cX3_isInRow 30 = .ok (.getfield 62, 3) := by decide +kernel
set_option maxRecDepth 20000 in
theorem dX3_isInRow_33 : decode cX3_isInRow 33 = .ok (.iload_n 1, 1) := by decide +kernel
set_option maxRecDepth 20000 in
theorem dX3_isInRow_34 : decode cX3_isInRow 34 = .ok (.if_icmp .ne 5, 3) := by decide +kernel
set_option maxRecDepth 20000 in
theorem dX3_isInRow_37 : decode cX3_isInRow 37 = .ok (.iconst 1, 1) := by decide +kernel
set_option maxRecDepth 20000 in
theorem dX3_isInRow_38 : decode cX3_isInRow 38 = .ok (.ireturn, 1) := by decide +kernel
set_option maxRecDepth 20000 in
theorem dX3_isInRow_39 : decode cX3_isInRow 39 = .ok (.iinc 2 1, 3) := by decide +kernel
set_option maxRecDepth 20000 in
theorem dX3_isInRow_42 : decode cX3_isInRow 42 = .ok (.goto (-40), 3) := by decide +kernel
set_option maxRecDepth 20000 in
theorem dX3_isInRow_45 : decode cX3_isInRow 45 = .ok (.iconst 0, 1) := by decide +kernel
set_option maxRecDepth 20000 in
theorem dX3_isInRow_46 : decode cX3_isInRow 46 = .ok (.ireturn, 1) := by decide +kernel
set_option maxRecDepth 20000 in
theorem dX3_startWaiting_0 : decode cX3_startWaiting 0 = .ok (.aload_n 0, 1) := by decide +kernel
set_option maxRecDepth 20000 in
theorem dX3_startWaiting_1 : decode cX3_startWaiting 1 = .ok (.iconst 2, 1) := by decide +kernel
set_option maxRecDepth 20000 in
theorem dX3_startWaiting_2 : decode cX3_startWaiting 2 = .ok (.putfield 18, 3) := by decide +kernel
set_option maxRecDepth 20000 in
theorem dX3_startWaiting_5 : decode cX3_startWaiting 5 = .ok (.aload_n 0, 1) := by decide +kernel
set_option maxRecDepth 20000 in
theorem dX3_startWaiting_6 : decode cX3_startWaiting 6 = .ok (.iconst 0, 1) := by decide +kernel
set_option maxRecDepth 20000 in
theorem dX3_startWaiting_7 : decode cX3_startWaiting 7 = .ok (.putfield 109, 3) := by decide +kernel
set_option maxRecDepth 20000 in
theorem dX3_startWaiting_10 : decode cX3_startWaiting 10 = .ok (.return_, 1) := by decide +kernel
set_option maxRecDepth 20000 in
theorem dX3_waitOneTick_0 : decode cX3_waitOneTick 0 = .ok (.aload_n 0, 1) := by decide +kernel
set_option maxRecDepth 20000 in
theorem dX3_waitOneTick_1 : decode cX3_waitOneTick 1 = .ok (.invokevirtual 112, 3) := by decide +kernel
set_option maxRecDepth 20000 in
theorem dX3_waitOneTick_4 : decode cX3_waitOneTick 4 = .ok (.astore_n 2, 1) := by decide +kernel
set_option maxRecDepth 20000 in
theorem dX3_waitOneTick_5 : decode cX3_waitOneTick 5 = .ok (.aload_n 0, 1) := by decide +kernel
set_option maxRecDepth 20000 in
theorem dX3_waitOneTick_6 : decode cX3_waitOneTick 6 = .ok (.getfield 18, 3) := by decide +kernel
set_option maxRecDepth 20000 in
theorem dX3_waitOneTick_9 : decode cX3_waitOneTick 9 = .ok (.iconst 2, 1) := by decide +kernel
set_option maxRecDepth 20000 in
theorem dX3_waitOneTick_10 : decode cX3_waitOneTick 10 = .ok (.if_icmp .ne 7, 3) := by decide +kernel
set_option maxRecDepth 20000 in
theorem dX3_waitOneTick_13 : decode cX3_waitOneTick 13 = .ok (.aload_n 2, 1) := by decide +kernel
set_option maxRecDepth 20000 in
theorem dX3_waitOneTick_14 : decode cX3_waitOneTick 14 = .ok (.ifnonnull 4, 3) := by decide +kernel
set_option maxRecDepth 20000 in
theorem dX3_waitOneTick_17 : decode cX3_waitOneTick 17 = .ok (.return_, 1) := by decide +kernel
set_option maxRecDepth 20000 in
theorem dX3_waitOneTick_18 : decode cX3_waitOneTick 18 = .ok (.aload_n 0, 1) := by decide +kernel
set_option maxRecDepth 20000 in
theorem dX3_waitOneTick_19 : decode cX3_waitOneTick 19 = .ok (.dup, 1) := by decide +kernel
set_option maxRecDepth 20000 in
theorem dX3_waitOneTick_20 : decode cX3_waitOneTick 20 = .ok (.getfield 109, 3) := by decide +kernel
set_option maxRecDepth 20000 in
theorem dX3_waitOneTick_23 : decode cX3_waitOneTick 23 = .ok (.iconst 1, 1) := by decide +kernel
set_option maxRecDepth 20000 in
theorem dX3_waitOneTick_24 : decode cX3_waitOneTick 24 = .ok (.iadd, 1) := by decide +kernel
set_option maxRecDepth 20000 in
theorem dX3_waitOneTick_25 : decode cX3_waitOneTick 25 = .ok (.putfield 109, 3) := by decide +kernel
set_option maxRecDepth 20000 in
theorem dX3_waitOneTick_28 : decode cX3_waitOneTick 28 = .ok (.aload_n 2, 1) := by decide +kernel
set_option maxRecDepth 20000 in
theorem dX3_waitOneTick_29 : decode cX3_waitOneTick 29 = .ok (.getfield 65, 3) := by decide +kernel
set_option maxRecDepth 20000 in
theorem dX3_waitOneTick_32 : decode cX3_waitOneTick 32 = .ok (.ifCond .ne 25, 3) := by decide +kernel
set_option maxRecDepth 20000 in
theorem dX3_waitOneTick_35 : decode cX3_waitOneTick 35 = .ok (.aload_n 0, 1) := by decide +kernel
set_option maxRecDepth 20000 in
theorem dX3_waitOneTick_36 : decode cX3_waitOneTick 36 = .ok (.getfield 109, 3) := by decide +kernel
set_option maxRecDepth 20000 in
theorem dX3_waitOneTick_39 : decode cX3_waitOneTick 39 = .ok (.aload_n 0, 1) := by decide +kernel
set_option maxRecDepth 20000 in
theorem dX3_waitOneTick_40 : decode cX3_waitOneTick 40 = .ok (.getfield 28, 3) := by decide +kernel
set_option maxRecDepth 20000 in
theorem dX3_waitOneTick_43 : decode cX3_waitOneTick 43 = .ok (.if_icmp .lt 48, 3) := by decide +kernel
set_option maxRecDepth 20000 in
theorem dX3_waitOneTick_46 : decode cX3_waitOneTick 46 = .ok (.aload_n 0, 1) := by decide +kernel
set_option maxRecDepth 20000 in
theorem dX3_waitOneTick_47 : decode cX3_waitOneTick 47 = .ok (.aload_n 2, 1) := by decide +kernel
set_option maxRecDepth 20000 in
theorem dX3_waitOneTick_48 : decode cX3_waitOneTick 48 = .ok (.iconst 0, 1) := by decide +kernel
set_option maxRecDepth 20000 in
theorem dX3_waitOneTick_49 : decode cX3_waitOneTick 49 = .ok (.iconst 0, 1) := by decide +kernel
set_option maxRecDepth 20000 in
theorem dX3_waitOneTick_50 : decode cX3_waitOneTick 50 = .ok (.aconst_null, 1) := by decide +kernel
set_option maxRecDepth 20000 in
theorem dX3_waitOneTick_51 : decode cX3_waitOneTick 51 = .ok (.invokevirtual 116, 3) := by decide +kernel
set_option maxRecDepth 20000 in
theorem dX3_waitOneTick_54 : decode cX3_waitOneTick 54 = .ok (.goto 37, 3) := by decide +kernel
set_option maxRecDepth 20000 in
theorem dX3_waitOneTick_57 : decode cX3_waitOneTick 57 = .ok (.aload_n 0, 1) := by decide +kernel
set_option maxRecDepth 20000 in
theorem dX3_waitOneTick_58 : decode cX3_waitOneTick 58 = .ok (.getfield 109, 3) := by decide +kernel
set_option maxRecDepth 20000 in
theorem dX3_waitOneTick_61 : decode cX3_waitOneTick 61 = .ok (.aload_n 0, 1) := by decide +kernel
set_option maxRecDepth 20000 in
theorem dX3_waitOneTick_62 : decode cX3_waitOneTick 62 = .ok (.getfield 25, 3) := by decide +kernel
set_option maxRecDepth 20000 in
theorem dX3_waitOneTick_65 : decode cX3_waitOneTick 65 = .ok (.if_icmp .lt 26, 3) := by decide +kernel
set_option maxRecDepth 20000 in
theorem dX3_waitOneTick_68 : decode cX3_waitOneTick 68 = .ok (.iload_n 1, 1) := by decide +kernel
set_option maxRecDepth 20000 in
theorem dX3_waitOneTick_69 : decode cX3_waitOneTick 69 = .ok (.ifCond .ne 22, 3) := by decide +kernel
set_option maxRecDepth 20000 in
theorem dX3_waitOneTick_72 : decode cX3_waitOneTick 72 = .ok (.aload_n 0, 1) := by decide +kernel
set_option maxRecDepth 20000 in
theorem dX3_waitOneTick_73 : decode cX3_waitOneTick 73 = .ok (.getfield 12, 3) := by decide +kernel
set_option maxRecDepth 20000 in
theorem dX3_waitOneTick_76 : decode cX3_waitOneTick 76 = .ok (.getfield 120, 3) := by decide +kernel
set_option maxRecDepth 20000 in
theorem dX3_waitOneTick_79 : decode cX3_waitOneTick 79 = .ok (.getfield 75, 3) := by decide +kernel
set_option maxRecDepth 20000 in
theorem dX3_waitOneTick_82 : decode cX3_waitOneTick 82 = .ok (.ifCond .ne 9, 3) := by decide +kernel
set_option maxRecDepth 20000 in
theorem dX3_waitOneTick_85 : decode cX3_waitOneTick 85 = .ok (.aload_n 0, 1) := by decide +kernel
set_option maxRecDepth 20000 in
theorem dX3_waitOneTick_86 : decode cX3_waitOneTick 86 = .ok (.aload_n 2, 1) := by decide +kernel
set_option maxRecDepth 20000 in
theorem dX3_waitOneTick_87 : decode cX3_waitOneTick 87 = .ok (.iconst 1, 1) := by decide +kernel
set_option maxRecDepth 20000 in
theorem dX3_waitOneTick_88 : decode cX3_waitOneTick 88 = .ok (.invokevirtual 123, 3) := by decide +kernel
set_option maxRecDepth 20000 in
theorem dX3_waitOneTick_91 : decode cX3_waitOneTick 91 = .ok (.return_, 1) := by decide +kernel
set_option maxRecDepth 20000 in
theorem dX3_takeFrame_0 : decode cX3_takeFrame 0 = .ok (.aload_n 0, 1) := by decide +kernel
set_option maxRecDepth 20000 in
theorem dX3_takeFrame_1 : decode cX3_takeFrame 1 = .ok (.invokevirtual 112, 3) := by decide +kernel
set_option maxRecDepth 20000 in
theorem dX3_takeFrame_4 : decode cX3_takeFrame 4 = .ok (.astore_n 2, 1) := by decide +kernel
set_option maxRecDepth 20000 in
theorem dX3_takeFrame_5 : decode cX3_takeFrame 5 = .ok (.aload_n 0, 1) := by decide +kernel
set_option maxRecDepth 20000 in
theorem dX3_takeFrame_6 : decode cX3_takeFrame 6 = .ok (.getfield 18, 3) := by decide +kernel
set_option maxRecDepth 20000 in
theorem dX3_takeFrame_9 : decode cX3_takeFrame 9 = .ok (.iconst 2, 1) := by decide +kernel
set_option maxRecDepth 20000 in
theorem dX3_takeFrame_10 : decode cX3_takeFrame 10 = .ok (.if_icmp .ne 14, 3) := by decide +kernel
set_option maxRecDepth 20000 in
theorem dX3_takeFrame_13 : decode cX3_takeFrame 13 = .ok (.aload_n 2, 1) := by decide +kernel
set_option maxRecDepth 20000 in
theorem dX3_takeFrame_14 : decode cX3_takeFrame 14 = .ok (.ifnull 10, 3) := by decide +kernel
set_option maxRecDepth 20000 in
theorem dX3_takeFrame_17 : decode cX3_takeFrame 17 = .ok (.aload_n 2, 1) := by decide +kernel
set_option maxRecDepth 20000 in
theorem dX3_takeFrame_18 : decode cX3_takeFrame 18 = .ok (.getfield 65, 3) := by decide +kernel
set_option maxRecDepth 20000 in
theorem dX3_takeFrame_21 : decode cX3_takeFrame 21 = .ok (.ifCond .ne 14, 3) := by decide +kernel
set_option maxRecDepth 20000 in
theorem dX3_takeFrame_24 : decode cX3_takeFrame 24 = .ok (.aload_n 0, 1) := by decide +kernel
set_option maxRecDepth 20000 in
theorem dX3_takeFrame_25 : decode cX3_takeFrame 25 = .ok (.dup, 1) := by decide +kernel
set_option maxRecDepth 20000 in
theorem dX3_takeFrame_26 : decode cX3_takeFrame 26 = .ok (.getfield 127, 3) := by decide +kernel
set_option maxRecDepth 20000 in
theorem dX3_takeFrame_29 : decode cX3_takeFrame 29 = .ok (.iconst 1, 1) := by decide +kernel
set_option maxRecDepth 20000 in
theorem dX3_takeFrame_30 : decode cX3_takeFrame 30 = .ok (.iadd, 1) := by decide +kernel
set_option maxRecDepth 20000 in
theorem dX3_takeFrame_31 : decode cX3_takeFrame 31 = .ok (.putfield 127, 3) := by decide +kernel
set_option maxRecDepth 20000 in
theorem dX3_takeFrame_34 : decode cX3_takeFrame 34 = .ok (.return_, 1) := by decide +kernel
set_option maxRecDepth 20000 in
theorem dX3_takeFrame_35 : decode cX3_takeFrame 35 = .ok (.aload_n 0, 1) := by decide +kernel
set_option maxRecDepth 20000 in
theorem dX3_takeFrame_36 : decode cX3_takeFrame 36 = .ok (.getfield 12, 3) := by decide +kernel
set_option maxRecDepth 20000 in
theorem dX3_takeFrame_39 : decode cX3_takeFrame 39 = .ok (.invokevirtual 130, 3) := by decide +kernel
set_option maxRecDepth 20000 in
theorem dX3_takeFrame_42 : decode cX3_takeFrame 42 = .ok (.ifCond .ne 10, 3) := by decide +kernel
set_option maxRecDepth 20000 in
theorem dX3_takeFrame_45 : decode cX3_takeFrame 45 = .ok (.aload_n 0, 1) := by decide +kernel
set_option maxRecDepth 20000 in
theorem dX3_takeFrame_46 : decode cX3_takeFrame 46 = .ok (.aload_n 2, 1) := by decide +kernel
set_option maxRecDepth 20000 in
theorem dX3_takeFrame_47 : decode cX3_takeFrame 47 = .ok (.iconst 2, 1) := by decide +kernel
set_option maxRecDepth 20000 in
theorem dX3_takeFrame_48 : decode cX3_takeFrame 48 = .ok (.invokevirtual 123, 3) := by decide +kernel
set_option maxRecDepth 20000 in
theorem dX3_takeFrame_51 : decode cX3_takeFrame 51 = .ok (.return_, 1) := by decide +kernel
set_option maxRecDepth 20000 in
theorem dX3_takeFrame_52 : decode cX3_takeFrame 52 = .ok (.aload_n 0, 1) := by decide +kernel
set_option maxRecDepth 20000 in
theorem dX3_takeFrame_53 : decode cX3_takeFrame 53 = .ok (.getfield 12, 3) := by decide +kernel
set_option maxRecDepth 20000 in
theorem dX3_takeFrame_56 : decode cX3_takeFrame 56 = .ok (.getfield 120, 3) := by decide +kernel
set_option maxRecDepth 20000 in
theorem dX3_takeFrame_59 : decode cX3_takeFrame 59 = .ok (.iconst 0, 1) := by decide +kernel
set_option maxRecDepth 20000 in
theorem dX3_takeFrame_60 : decode cX3_takeFrame 60 = .ok (.invokevirtual 134, 3) := by decide +kernel
set_option maxRecDepth 20000 in
theorem dX3_takeFrame_63 : decode cX3_takeFrame 63 = .ok (.aload_n 2, 1) := by decide +kernel
set_option maxRecDepth 20000 in
theorem dX3_takeFrame_64 : decode cX3_takeFrame 64 = .ok (.getfield 65, 3) := by decide +kernel
set_option maxRecDepth 20000 in
theorem dX3_takeFrame_67 : decode cX3_takeFrame 67 = .ok (.if_icmp .eq 14, 3) := by decide +kernel
set_option maxRecDepth 20000 in
theorem dX3_takeFrame_70 : decode cX3_takeFrame 70 = .ok (.aload_n 0, 1) := by decide +kernel
set_option maxRecDepth 20000 in
theorem dX3_takeFrame_71 : decode cX3_takeFrame 71 = .ok (.dup, 1) := by decide +kernel
set_option maxRecDepth 20000 in
theorem dX3_takeFrame_72 : decode cX3_takeFrame 72 = .ok (.getfield 127, 3) := by decide +kernel
set_option maxRecDepth 20000 in
theorem dX3_takeFrame_75 : decode cX3_takeFrame 75 = .ok (.iconst 1, 1) := by decide +kernel
set_option maxRecDepth 20000 in
theorem dX3_takeFrame_76 : decode cX3_takeFrame 76 = .ok (.iadd, 1) := by decide +kernel
set_option maxRecDepth 20000 in
theorem dX3_takeFrame_77 : decode cX3_takeFrame 77 = .ok (.putfield 127, 3) := by decide +kernel
set_option maxRecDepth 20000 in
theorem dX3_takeFrame_80 : decode cX3_takeFrame 80 = .ok (.return_, 1) := by decide +kernel
set_option maxRecDepth 20000 in
theorem dX3_takeFrame_81 : decode cX3_takeFrame 81 = .ok (.aload_n 1, 1) := by decide +kernel
set_option maxRecDepth 20000 in
theorem dX3_takeFrame_82 : decode cX3_takeFrame 82 = .ok (.aload_n 0, 1) := by decide +kernel
set_option maxRecDepth 20000 in
theorem dX3_takeFrame_83 : decode cX3_takeFrame 83 = .ok (.getfield 12, 3) := by decide +kernel
set_option maxRecDepth 20000 in
theorem dX3_takeFrame_86 : decode cX3_takeFrame 86 = .ok (.getfield 120, 3) := by decide +kernel
set_option maxRecDepth 20000 in
theorem dX3_takeFrame_89 : decode cX3_takeFrame 89 = .ok (.iconst 1, 1) := by decide +kernel
set_option maxRecDepth 20000 in
theorem dX3_takeFrame_90 : decode cX3_takeFrame 90 = .ok (.aload_n 0, 1) := by decide +kernel
set_option maxRecDepth 20000 in
theorem dX3_takeFrame_91 : decode cX3_takeFrame 91 = .ok (.getfield 12, 3) := by decide +kernel
set_option maxRecDepth 20000 in
theorem dX3_takeFrame_94 : decode cX3_takeFrame 94 = .ok (.getfield 120, 3) := by decide +kernel
set_option maxRecDepth 20000 in
theorem dX3_takeFrame_97 : decode cX3_takeFrame 97 = .ok (.getfield 75, 3) := by decide +kernel
set_option maxRecDepth 20000 in
theorem dX3_takeFrame_100 : decode cX3_takeFrame 100 = .ok (.iconst 3, 1) := by decide +kernel
set_option maxRecDepth 20000 in
theorem dX3_takeFrame_101 : decode cX3_takeFrame 101 = .ok (.isub, 1) := by decide +kernel
set_option maxRecDepth 20000 in
theorem dX3_takeFrame_102 : decode cX3_takeFrame 102 = .ok (.invokevirtual 80, 3) := by decide +kernel
set_option maxRecDepth 20000 in
theorem dX3_takeFrame_105 : decode cX3_takeFrame 105 = .ok (.aload_n 2, 1) := by decide +kernel
set_option maxRecDepth 20000 in
theorem dX3_takeFrame_106 : decode cX3_takeFrame 106 = .ok (.getfield 71, 3) := by decide +kernel
set_option maxRecDepth 20000 in
theorem dX3_takeFrame_109 : decode cX3_takeFrame 109 = .ok (.aload_n 1, 1) := by decide +kernel
set_option maxRecDepth 20000 in
theorem dX3_takeFrame_110 : decode cX3_takeFrame 110 = .ok (.invokestatic 138, 3) := by decide +kernel
set_option maxRecDepth 20000 in
theorem dX3_takeFrame_113 : decode cX3_takeFrame 113 = .ok (.ifCond .eq 37, 3) := by decide +kernel
set_option maxRecDepth 20000 in
theorem dX3_takeFrame_116 : decode cX3_takeFrame 116 = .ok (.aload_n 1, 1) := by decide +kernel
set_option maxRecDepth 20000 in
theorem dX3_takeFrame_117 : decode cX3_takeFrame 117 = .ok (.iconst 1, 1) := by decide +kernel
set_option maxRecDepth 20000 in
theorem dX3_takeFrame_118 : decode cX3_takeFrame 118 = .ok (.invokevirtual 134, 3) := by decide +kernel
set_option maxRecDepth 20000 in
theorem dX3_takeFrame_121 : decode cX3_takeFrame 121 = .ok (.bipush 6, 2) := by decide +kernel
set_option maxRecDepth 20000 in
theorem dX3_takeFrame_123 : decode cX3_takeFrame 123 = .ok (.if_icmp .ne 12, 3) := by decide +kernel
set_option maxRecDepth 20000 in
theorem dX3_takeFrame_126 : decode cX3_takeFrame 126 = .ok (.aload_n 0, 1) := by decide +kernel
set_option maxRecDepth 20000 in
theorem dX3_takeFrame_127 : decode cX3_takeFrame 127 = .ok (.aload_n 2, 1) := by decide +kernel
set_option maxRecDepth 20000 in
theorem dX3_takeFrame_128 : decode cX3_takeFrame 128 = .ok (.iconst 4, 1) := by decide +kernel
set_option maxRecDepth 20000 in
theorem dX3_takeFrame_129 : decode cX3_takeFrame 129 = .ok (.invokevirtual 123, 3) := by decide +kernel
set_option maxRecDepth 20000 in
theorem dX3_takeFrame_132 : decode cX3_takeFrame 132 = .ok (.goto 46, 3) := by decide +kernel
set_option maxRecDepth 20000 in
theorem dX3_takeFrame_135 : decode cX3_takeFrame 135 = .ok (.aload_n 0, 1) := by decide +kernel
set_option maxRecDepth 20000 in
theorem dX3_takeFrame_136 : decode cX3_takeFrame 136 = .ok (.aload_n 2, 1) := by decide +kernel
set_option maxRecDepth 20000 in
theorem dX3_takeFrame_137 : decode cX3_takeFrame 137 = .ok (.iconst 1, 1) := by decide +kernel
set_option maxRecDepth 20000 in
theorem dX3_takeFrame_138 : decode cX3_takeFrame 138 = .ok (.aload_n 1, 1) := by decide +kernel
set_option maxRecDepth 20000 in
theorem dX3_takeFrame_139 : decode cX3_takeFrame 139 = .ok (.iconst 1, 1) := by decide +kernel
set_option maxRecDepth 20000 in
theorem dX3_takeFrame_140 : decode cX3_takeFrame 140 = .ok (.invokevirtual 134, 3) := by decide +kernel
set_option maxRecDepth 20000 in
theorem dX3_takeFrame_143 : decode cX3_takeFrame 143 = .ok (.aconst_null, 1) := by decide +kernel
set_option maxRecDepth 20000 in
theorem dX3_takeFrame_144 : decode cX3_takeFrame 144 = .ok (.invokevirtual 116, 3) := by decide +kernel
set_option maxRecDepth 20000 in
theorem dX3_takeFrame_147 : decode cX3_takeFrame 147 = .ok (.goto 31, 3) := by decide +kernel
set_option maxRecDepth 20000 in
theorem dX3_takeFrame_150 : decode cX3_takeFrame 150 = .ok (.aload_n 2, 1) := by decide +kernel
set_option maxRecDepth 20000 in
theorem dX3_takeFrame_151 : decode cX3_takeFrame 151 = .ok (.getfield 71, 3) := by decide +kernel
set_option maxRecDepth 20000 in
theorem dX3_takeFrame_154 : decode cX3_takeFrame 154 = .ok (.aload_n 1, 1) := by decide +kernel
set_option maxRecDepth 20000 in
theorem dX3_takeFrame_155 : decode cX3_takeFrame 155 = .ok (.invokestatic 144, 3) := by decide +kernel
set_option maxRecDepth 20000 in
theorem dX3_takeFrame_158 : decode cX3_takeFrame 158 = .ok (.ifCond .eq 14, 3) := by decide +kernel
set_option maxRecDepth 20000 in
theorem dX3_takeFrame_161 : decode cX3_takeFrame 161 = .ok (.aload_n 0, 1) := by decide +kernel
set_option maxRecDepth 20000 in
theorem dX3_takeFrame_162 : decode cX3_takeFrame 162 = .ok (.aload_n 2, 1) := by decide +kernel
set_option maxRecDepth 20000 in
theorem dX3_takeFrame_163 : decode cX3_takeFrame 163 = .ok (.iconst 0, 1) := by decide +kernel
set_option maxRecDepth 20000 in
theorem dX3_takeFrame_164 : decode cX3_takeFrame 164 = .ok (.iconst 0, 1) := by decide +kernel
set_option maxRecDepth 20000 in
theorem dX3_takeFrame_165 : decode cX3_takeFrame 165 = .ok (.aload_n 1, 1) := by decide +kernel
set_option maxRecDepth 20000 in
theorem dX3_takeFrame_166 : decode cX3_takeFrame 166 = .ok (.invokevirtual 116, 3) := by decide +kernel
set_option maxRecDepth 20000 in
theorem dX3_takeFrame_169 : decode cX3_takeFrame 169 = .ok (.goto 9, 3) := by decide +kernel
set_option maxRecDepth 20000 in
theorem dX3_takeFrame_172 : decode cX3_takeFrame 172 = .ok (.aload_n 0, 1) := by decide +kernel
set_option maxRecDepth 20000 in
theorem dX3_takeFrame_173 : decode cX3_takeFrame 173 = .ok (.aload_n 2, 1) := by decide +kernel
set_option maxRecDepth 20000 in
theorem dX3_takeFrame_174 : decode cX3_takeFrame 174 = .ok (.iconst 3, 1) := by decide +kernel
set_option maxRecDepth 20000 in
theorem dX3_takeFrame_175 : decode cX3_takeFrame 175 = .ok (.invokevirtual 123, 3) := by decide +kernel
set_option maxRecDepth 20000 in
theorem dX3_takeFrame_178 : decode cX3_takeFrame 178 = .ok (.return_, 1) := by decide +kernel
set_option maxRecDepth 20000 in
theorem dX3_fail_0 : decode cX3_fail 0 = .ok (.aload_n 0, 1) := by decide +kernel
set_option maxRecDepth 20000 in
theorem dX3_fail_1 : decode cX3_fail 1 = .ok (.iconst 0, 1) := by decide +kernel
set_option maxRecDepth 20000 in
theorem dX3_fail_2 : decode cX3_fail 2 = .ok (.putfield 18, 3) := by decide +kernel
set_option maxRecDepth 20000 in
theorem dX3_fail_5 : decode cX3_fail 5 = .ok (.aload_n 1, 1) := by decide +kernel
set_option maxRecDepth 20000 in
theorem dX3_fail_6 : decode cX3_fail 6 = .ok (.getfield 68, 3) := by decide +kernel
set_option maxRecDepth 20000 in
theorem dX3_fail_9 : decode cX3_fail 9 = .ok (.aload_n 0, 1) := by decide +kernel
set_option maxRecDepth 20000 in
theorem dX3_fail_10 : decode cX3_fail 10 = .ok (.getfield 22, 3) := by decide +kernel
set_option maxRecDepth 20000 in
theorem dX3_fail_13 : decode cX3_fail 13 = .ok (.if_icmp .lt 11, 3) := by decide +kernel
set_option maxRecDepth 20000 in
theorem dX3_fail_16 : decode cX3_fail 16 = .ok (.aload_n 0, 1) := by decide +kernel
set_option maxRecDepth 20000 in
theorem dX3_fail_17 : decode cX3_fail 17 = .ok (.aload_n 1, 1) := by decide +kernel
set_option maxRecDepth 20000 in
theorem dX3_fail_18 : decode cX3_fail 18 = .ok (.iconst 2, 1) := by decide +kernel
set_option maxRecDepth 20000 in
theorem dX3_fail_19 : decode cX3_fail 19 = .ok (.iload_n 2, 1) := by decide +kernel
set_option maxRecDepth 20000 in
theorem dX3_fail_20 : decode cX3_fail 20 = .ok (.aconst_null, 1) := by decide +kernel
set_option maxRecDepth 20000 in
theorem dX3_fail_21 : decode cX3_fail 21 = .ok (.invokevirtual 116, 3) := by decide +kernel
set_option maxRecDepth 20000 in
theorem dX3_fail_24 : decode cX3_fail 24 = .ok (.return_, 1) := by decide +kernel
set_option maxRecDepth 20000 in
theorem dX3_finish_0 : decode cX3_finish 0 = .ok (.aload_n 0, 1) := by decide +kernel
set_option maxRecDepth 20000 in
theorem dX3_finish_1 : decode cX3_finish 1 = .ok (.iconst 0, 1) := by decide +kernel
set_option maxRecDepth 20000 in
theorem dX3_finish_2 : decode cX3_finish 2 = .ok (.putfield 18, 3) := by decide +kernel
set_option maxRecDepth 20000 in
theorem dX3_finish_5 : decode cX3_finish 5 = .ok (.aload_n 0, 1) := by decide +kernel
set_option maxRecDepth 20000 in
theorem dX3_finish_6 : decode cX3_finish 6 = .ok (.getfield 49, 3) := by decide +kernel
set_option maxRecDepth 20000 in
theorem dX3_finish_9 : decode cX3_finish 9 = .ok (.istore 5, 2) := by decide +kernel
set_option maxRecDepth 20000 in
theorem dX3_finish_11 : decode cX3_finish 11 = .ok (.aload_n 0, 1) := by decide +kernel
set_option maxRecDepth 20000 in
theorem dX3_finish_12 : decode cX3_finish 12 = .ok (.aload_n 0, 1) := by decide +kernel
set_option maxRecDepth 20000 in
theorem dX3_finish_13 : decode cX3_finish 13 = .ok (.getfield 49, 3) := by decide +kernel
set_option maxRecDepth 20000 in
theorem dX3_finish_16 : decode cX3_finish 16 = .ok (.iconst 1, 1) := by decide +kernel
set_option maxRecDepth 20000 in
theorem dX3_finish_17 : decode cX3_finish 17 = .ok (.iadd, 1) := by decide +kernel
set_option maxRecDepth 20000 in
theorem dX3_finish_18 : decode cX3_finish 18 = .ok (.bipush 16, 2) := by decide +kernel
set_option maxRecDepth 20000 in
theorem dX3_finish_20 : decode cX3_finish 20 = .ok (.irem, 1) := by decide +kernel
set_option maxRecDepth 20000 in
theorem dX3_finish_21 : decode cX3_finish 21 = .ok (.putfield 49, 3) := by decide +kernel
set_option maxRecDepth 20000 in
theorem dX3_finish_24 : decode cX3_finish 24 = .ok (.aload_n 0, 1) := by decide +kernel
set_option maxRecDepth 20000 in
theorem dX3_finish_25 : decode cX3_finish 25 = .ok (.dup, 1) := by decide +kernel
set_option maxRecDepth 20000 in
theorem dX3_finish_26 : decode cX3_finish 26 = .ok (.getfield 46, 3) := by decide +kernel
set_option maxRecDepth 20000 in
theorem dX3_finish_29 : decode cX3_finish 29 = .ok (.iconst 1, 1) := by decide +kernel
set_option maxRecDepth 20000 in
theorem dX3_finish_30 : decode cX3_finish 30 = .ok (.isub, 1) := by decide +kernel
set_option maxRecDepth 20000 in
theorem dX3_finish_31 : decode cX3_finish 31 = .ok (.putfield 46, 3) := by decide +kernel
set_option maxRecDepth 20000 in
theorem dX3_finish_34 : decode cX3_finish 34 = .ok (.aload_n 0, 1) := by decide +kernel
set_option maxRecDepth 20000 in
theorem dX3_finish_35 : decode cX3_finish 35 = .ok (.getfield 52, 3) := by decide +kernel
set_option maxRecDepth 20000 in
theorem dX3_finish_38 : decode cX3_finish 38 = .ok (.bipush 32, 2) := by decide +kernel
set_option maxRecDepth 20000 in
theorem dX3_finish_40 : decode cX3_finish 40 = .ok (.if_icmp .lt 14, 3) := by decide +kernel
set_option maxRecDepth 20000 in
theorem dX3_finish_43 : decode cX3_finish 43 = .ok (.aload_n 0, 1) := by decide +kernel
set_option maxRecDepth 20000 in
theorem dX3_finish_44 : decode cX3_finish 44 = .ok (.dup, 1) := by decide +kernel
set_option maxRecDepth 20000 in
theorem dX3_finish_45 : decode cX3_finish 45 = .ok (.getfield 147, 3) := by decide +kernel
set_option maxRecDepth 20000 in
theorem dX3_finish_48 : decode cX3_finish 48 = .ok (.iconst 1, 1) := by decide +kernel
set_option maxRecDepth 20000 in
theorem dX3_finish_49 : decode cX3_finish 49 = .ok (.iadd, 1) := by decide +kernel
set_option maxRecDepth 20000 in
theorem dX3_finish_50 : decode cX3_finish 50 = .ok (.putfield 147, 3) := by decide +kernel
set_option maxRecDepth 20000 in
theorem dX3_finish_53 : decode cX3_finish 53 = .ok (.return_, 1) := by decide +kernel
set_option maxRecDepth 20000 in
theorem dX3_finish_54 : decode cX3_finish 54 = .ok (.aload_n 0, 1) := by decide +kernel
set_option maxRecDepth 20000 in
theorem dX3_finish_55 : decode cX3_finish 55 = .ok (.getfield 55, 3) := by decide +kernel
set_option maxRecDepth 20000 in
theorem dX3_finish_58 : decode cX3_finish 58 = .ok (.aload_n 0, 1) := by decide +kernel
set_option maxRecDepth 20000 in
theorem dX3_finish_59 : decode cX3_finish 59 = .ok (.getfield 52, 3) := by decide +kernel
set_option maxRecDepth 20000 in
theorem dX3_finish_62 : decode cX3_finish 62 = .ok (.iadd, 1) := by decide +kernel
set_option maxRecDepth 20000 in
theorem dX3_finish_63 : decode cX3_finish 63 = .ok (.bipush 32, 2) := by decide +kernel
set_option maxRecDepth 20000 in
theorem dX3_finish_65 : decode cX3_finish 65 = .ok (.irem, 1) := by decide +kernel
set_option maxRecDepth 20000 in
theorem dX3_finish_66 : decode cX3_finish 66 = .ok (.istore 6, 2) := by decide +kernel
set_option maxRecDepth 20000 in
theorem dX3_finish_68 : decode cX3_finish 68 = .ok (.aload_n 0, 1) := by decide +kernel
set_option maxRecDepth 20000 in
theorem dX3_finish_69 : decode cX3_finish 69 = .ok (.dup, 1) := by decide +kernel
set_option maxRecDepth 20000 in
theorem dX3_finish_70 : decode cX3_finish 70 = .ok (.getfield 52, 3) := by decide +kernel
set_option maxRecDepth 20000 in
theorem dX3_finish_73 : decode cX3_finish 73 = .ok (.iconst 1, 1) := by decide +kernel
set_option maxRecDepth 20000 in
theorem dX3_finish_74 : decode cX3_finish 74 = .ok (.iadd, 1) := by decide +kernel
set_option maxRecDepth 20000 in
theorem dX3_finish_75 : decode cX3_finish 75 = .ok (.putfield 52, 3) := by decide +kernel
set_option maxRecDepth 20000 in
theorem dX3_finish_78 : decode cX3_finish 78 = .ok (.aload_n 0, 1) := by decide +kernel
set_option maxRecDepth 20000 in
theorem dX3_finish_79 : decode cX3_finish 79 = .ok (.getfield 33, 3) := by decide +kernel
set_option maxRecDepth 20000 in
theorem dX3_finish_82 : decode cX3_finish 82 = .ok (.iload 5, 2) := by decide +kernel
set_option maxRecDepth 20000 in
theorem dX3_finish_84 : decode cX3_finish 84 = .ok (.aload_n 0, 1) := by decide +kernel
set_option maxRecDepth 20000 in
theorem dX3_finish_85 : decode cX3_finish 85 = .ok (.getfield 37, 3) := by decide +kernel
set_option maxRecDepth 20000 in
theorem dX3_finish_88 : decode cX3_finish 88 = .ok (.iload 6, 2) := by decide +kernel
set_option maxRecDepth 20000 in
theorem dX3_finish_90 : decode cX3_finish 90 = .ok (.aaload, 1) := by decide +kernel
set_option maxRecDepth 20000 in
theorem dX3_finish_91 : decode cX3_finish 91 = .ok (.aastore, 1) := by decide +kernel
set_option maxRecDepth 20000 in
theorem dX3_finish_92 : decode cX3_finish 92 = .ok (.aload_n 0, 1) := by decide +kernel
set_option maxRecDepth 20000 in
theorem dX3_finish_93 : decode cX3_finish 93 = .ok (.getfield 37, 3) := by decide +kernel
set_option maxRecDepth 20000 in
theorem dX3_finish_96 : decode cX3_finish 96 = .ok (.iload 6, 2) := by decide +kernel
set_option maxRecDepth 20000 in
theorem dX3_finish_98 : decode cX3_finish 98 = .ok (.aload_n 1, 1) := by decide +kernel
set_option maxRecDepth 20000 in
theorem dX3_finish_99 : decode cX3_finish 99 = .ok (.aastore, 1) := by decide +kernel
set_option maxRecDepth 20000 in
theorem dX3_finish_100 : decode cX3_finish 100 = .ok (.aload_n 1, 1) := by decide +kernel
set_option maxRecDepth 20000 in
theorem dX3_finish_101 : decode cX3_finish 101 = .ok (.iload_n 2, 1) := by decide +kernel
set_option maxRecDepth 20000 in
theorem dX3_finish_102 : decode cX3_finish 102 = .ok (.putfield 150, 3) := by decide +kernel
set_option maxRecDepth 20000 in
theorem dX3_finish_105 : decode cX3_finish 105 = .ok (.aload_n 1, 1) := by decide +kernel
set_option maxRecDepth 20000 in
theorem dX3_finish_106 : decode cX3_finish 106 = .ok (.iload_n 3, 1) := by decide +kernel
set_option maxRecDepth 20000 in
theorem dX3_finish_107 : decode cX3_finish 107 = .ok (.putfield 153, 3) := by decide +kernel
set_option maxRecDepth 20000 in
theorem dX3_finish_110 : decode cX3_finish 110 = .ok (.aload_n 1, 1) := by decide +kernel
set_option maxRecDepth 20000 in
theorem dX3_finish_111 : decode cX3_finish 111 = .ok (.getfield 71, 3) := by decide +kernel
set_option maxRecDepth 20000 in
theorem dX3_finish_114 : decode cX3_finish 114 = .ok (.invokevirtual 156, 3) := by decide +kernel
set_option maxRecDepth 20000 in
theorem dX3_finish_117 : decode cX3_finish 117 = .ok (.aload 4, 2) := by decide +kernel
set_option maxRecDepth 20000 in
theorem dX3_finish_119 : decode cX3_finish 119 = .ok (.ifnull 18, 3) := by decide +kernel
set_option maxRecDepth 20000 in
theorem dX3_finish_122 : decode cX3_finish 122 = .ok (.aload_n 1, 1) := by decide +kernel
set_option maxRecDepth 20000 in
theorem dX3_finish_123 : decode cX3_finish 123 = .ok (.getfield 71, 3) := by decide +kernel
set_option maxRecDepth 20000 in
theorem dX3_finish_126 : decode cX3_finish 126 = .ok (.aload 4, 2) := by decide +kernel
set_option maxRecDepth 20000 in
theorem dX3_finish_128 : decode cX3_finish 128 = .ok (.iconst 0, 1) := by decide +kernel
set_option maxRecDepth 20000 in
theorem dX3_finish_129 : decode cX3_finish 129 = .ok (.aload 4, 2) := by decide +kernel
set_option maxRecDepth 20000 in
theorem dX3_finish_131 : decode cX3_finish 131 = .ok (.getfield 75, 3) := by decide +kernel
set_option maxRecDepth 20000 in
theorem dX3_finish_134 : decode cX3_finish 134 = .ok (.invokevirtual 159, 3) := by decide +kernel
set_option maxRecDepth 20000 in
theorem dX3_finish_137 : decode cX3_finish 137 = .ok (.return_, 1) := by decide +kernel
set_option maxRecDepth 20000 in
theorem dX5_init_0 : decode cX5_init 0 = .ok (.aload_n 0, 1) := by decide +kernel
set_option maxRecDepth 20000 in
theorem dX5_init_1 : decode cX5_init 1 = .ok (.invokespecial 3, 3) := by decide +kernel
set_option maxRecDepth 20000 in
theorem dX5_init_4 : decode cX5_init 4 = .ok (.aload_n 0, 1) := by decide +kernel
set_option maxRecDepth 20000 in
theorem dX5_init_5 : decode cX5_init 5 = .ok (.new 9, 3) := by decide +kernel
set_option maxRecDepth 20000 in
theorem dX5_init_8 : decode cX5_init 8 = .ok (.dup, 1) := by decide +kernel
set_option maxRecDepth 20000 in
theorem dX5_init_9 : decode cX5_init 9 = .ok (.sipush 253, 3) := by decide +kernel
set_option maxRecDepth 20000 in
theorem dX5_init_12 : decode cX5_init 12 = .ok (.invokespecial 11, 3) := by decide +kernel
set_option maxRecDepth 20000 in
theorem dX5_init_15 : decode cX5_init 15 = .ok (.putfield 14, 3) := by decide +kernel
set_option maxRecDepth 20000 in
theorem dX5_init_18 : decode cX5_init 18 = .ok (.aload_n 0, 1) := by decide +kernel
set_option maxRecDepth 20000 in
theorem dX5_init_19 : decode cX5_init 19 = .ok (.getfield 14, 3) := by decide +kernel
set_option maxRecDepth 20000 in
theorem dX5_init_22 : decode cX5_init 22 = .ok (.aload 4, 2) := by decide +kernel
set_option maxRecDepth 20000 in
theorem dX5_init_24 : decode cX5_init 24 = .ok (.iconst 0, 1) := by decide +kernel
set_option maxRecDepth 20000 in
theorem dX5_init_25 : decode cX5_init 25 = .ok (.aload 4, 2) := by decide +kernel
set_option maxRecDepth 20000 in
theorem dX5_init_27 : decode cX5_init 27 = .ok (.getfield 20, 3) := by decide +kernel
set_option maxRecDepth 20000 in
theorem dX5_init_30 : decode cX5_init 30 = .ok (.invokevirtual 24, 3) := by decide +kernel
set_option maxRecDepth 20000 in
theorem dX5_init_33 : decode cX5_init 33 = .ok (.aload_n 0, 1) := by decide +kernel
set_option maxRecDepth 20000 in
theorem dX5_init_34 : decode cX5_init 34 = .ok (.iload_n 1, 1) := by decide +kernel
set_option maxRecDepth 20000 in
theorem dX5_init_35 : decode cX5_init 35 = .ok (.putfield 28, 3) := by decide +kernel
set_option maxRecDepth 20000 in
theorem dX5_init_38 : decode cX5_init 38 = .ok (.aload_n 0, 1) := by decide +kernel
set_option maxRecDepth 20000 in
theorem dX5_init_39 : decode cX5_init 39 = .ok (.iload_n 3, 1) := by decide +kernel
set_option maxRecDepth 20000 in
theorem dX5_init_40 : decode cX5_init 40 = .ok (.putfield 31, 3) := by decide +kernel
set_option maxRecDepth 20000 in
theorem dX5_init_43 : decode cX5_init 43 = .ok (.aload_n 0, 1) := by decide +kernel
set_option maxRecDepth 20000 in
theorem dX5_init_44 : decode cX5_init 44 = .ok (.iload_n 2, 1) := by decide +kernel
set_option maxRecDepth 20000 in
theorem dX5_init_45 : decode cX5_init 45 = .ok (.putfield 34, 3) := by decide +kernel
set_option maxRecDepth 20000 in
theorem dX5_init_48 : decode cX5_init 48 = .ok (.aload_n 0, 1) := by decide +kernel
set_option maxRecDepth 20000 in
theorem dX5_init_49 : decode cX5_init 49 = .ok (.iconst (-1), 1) := by decide +kernel
set_option maxRecDepth 20000 in
theorem dX5_init_50 : decode cX5_init 50 = .ok (.putfield 37, 3) := by decide +kernel
set_option maxRecDepth 20000 in
theorem dX5_init_53 : decode cX5_init 53 = .ok (.return_, 1) := by decide +kernel
