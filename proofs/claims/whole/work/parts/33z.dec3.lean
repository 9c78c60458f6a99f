set_option maxRecDepth 20000 in
theorem dX6_isForAll_0 : decode cX6_isForAll 0 = .ok (.iload_n 0, 1) := by decide +kernel
set_option maxRecDepth 20000 in
theorem dX6_isForAll_1 : decode cX6_isForAll 1 = .ok (.iconst 5, 1) := by decide +kernel
set_option maxRecDepth 20000 in
theorem dX6_isForAll_2 : decode cX6_isForAll 2 = .ok (.if_icmp .eq 33, 3) := by decide +kernel
set_option maxRecDepth 20000 in
theorem dX6_isForAll_5 : decode cX6_isForAll 5 = .ok (.iload_n 0, 1) := by decide +kernel
set_option maxRecDepth 20000 in
theorem dX6_isForAll_6 : decode cX6_isForAll 6 = .ok (.bipush 6, 2) := by decide +kernel
set_option maxRecDepth 20000 in
theorem dX6_isForAll_8 : decode cX6_isForAll 8 = .ok (.if_icmp .eq 27, 3) := by decide +kernel
set_option maxRecDepth 20000 in
theorem dX6_isForAll_11 : decode cX6_isForAll 11 = .ok (.iload_n 0, 1) := by decide +kernel
set_option maxRecDepth 20000 in
theorem dX6_isForAll_12 : decode cX6_isForAll 12 = .ok (.bipush 15, 2) := by decide +kernel
set_option maxRecDepth 20000 in
theorem dX6_isForAll_14 : decode cX6_isForAll 14 = .ok (.if_icmp .eq 21, 3) := by decide +kernel
set_option maxRecDepth 20000 in
theorem dX6_isForAll_17 : decode cX6_isForAll 17 = .ok (.iload_n 0, 1) := by decide +kernel
set_option maxRecDepth 20000 in
theorem dX6_isForAll_18 : decode cX6_isForAll 18 = .ok (.bipush 16, 2) := by decide +kernel
set_option maxRecDepth 20000 in
theorem dX6_isForAll_20 : decode cX6_isForAll 20 = .ok (.if_icmp .eq 15, 3) := by decide +kernel
set_option maxRecDepth 20000 in
theorem dX6_isForAll_23 : decode cX6_isForAll 23 = .ok (.iload_n 0, 1) := by decide +kernel
set_option maxRecDepth 20000 in
theorem dX6_isForAll_24 : decode cX6_isForAll 24 = .ok (.bipush 21, 2) := by decide +kernel
set_option maxRecDepth 20000 in
theorem dX6_isForAll_26 : decode cX6_isForAll 26 = .ok (.if_icmp .eq 9, 3) := by decide +kernel
set_option maxRecDepth 20000 in
theorem dX6_isForAll_29 : decode cX6_isForAll 29 = .ok (.iload_n 0, 1) := by decide +kernel
set_option maxRecDepth 20000 in
theorem dX6_isForAll_30 : decode cX6_isForAll 30 = .ok (.bipush 22, 2) := by decide +kernel
set_option maxRecDepth 20000 in
theorem dX6_isForAll_32 : decode cX6_isForAll 32 = .ok (.if_icmp .ne 7, 3) := by decide +kernel
set_option maxRecDepth 20000 in
theorem dX6_isForAll_35 : decode cX6_isForAll 35 = .ok (.iconst 1, 1) := by decide +kernel
set_option maxRecDepth 20000 in
theorem dX6_isForAll_36 : decode cX6_isForAll 36 = .ok (.goto 4, 3) := by decide +kernel
set_option maxRecDepth 20000 in
theorem dX6_isForAll_39 : decode cX6_isForAll 39 = .ok (.iconst 0, 1) := by decide +kernel
set_option maxRecDepth 20000 in
theorem dX6_isForAll_40 : decode cX6_isForAll 40 = .ok (.ireturn, 1) := by decide +kernel
set_option maxRecDepth 20000 in
theorem dX6_served_0 : decode cX6_served 0 = .ok (.aload_n 2, 1) := by decide +kernel
set_option maxRecDepth 20000 in
theorem dX6_served_1 : decode cX6_served 1 = .ok (.invokevirtual 9, 3) := by decide +kernel
set_option maxRecDepth 20000 in
theorem dX6_served_4 : decode cX6_served 4 = .ok (.iconst 0, 1) := by decide +kernel
set_option maxRecDepth 20000 in
theorem dX6_served_5 : decode cX6_served 5 = .ok (.istore_n 3, 1) := by decide +kernel
set_option maxRecDepth 20000 in
theorem dX6_served_6 : decode cX6_served 6 = .ok (.aload_n 0, 1) := by decide +kernel
set_option maxRecDepth 20000 in
theorem dX6_served_7 : decode cX6_served 7 = .ok (.getfield 14, 3) := by decide +kernel
set_option maxRecDepth 20000 in
theorem dX6_served_10 : decode cX6_served 10 = .ok (.ifCond .le 22, 3) := by decide +kernel
set_option maxRecDepth 20000 in
theorem dX6_served_13 : decode cX6_served 13 = .ok (.aload_n 0, 1) := by decide +kernel
set_option maxRecDepth 20000 in
theorem dX6_served_14 : decode cX6_served 14 = .ok (.dup, 1) := by decide +kernel
set_option maxRecDepth 20000 in
theorem dX6_served_15 : decode cX6_served 15 = .ok (.getfield 14, 3) := by decide +kernel
set_option maxRecDepth 20000 in
theorem dX6_served_18 : decode cX6_served 18 = .ok (.iconst 1, 1) := by decide +kernel
set_option maxRecDepth 20000 in
theorem dX6_served_19 : decode cX6_served 19 = .ok (.isub, 1) := by decide +kernel
set_option maxRecDepth 20000 in
theorem dX6_served_20 : decode cX6_served 20 = .ok (.putfield 14, 3) := by decide +kernel
set_option maxRecDepth 20000 in
theorem dX6_served_23 : decode cX6_served 23 = .ok (.aload_n 0, 1) := by decide +kernel
set_option maxRecDepth 20000 in
theorem dX6_served_24 : decode cX6_served 24 = .ok (.bipush 6, 2) := by decide +kernel
set_option maxRecDepth 20000 in
theorem dX6_served_26 : decode cX6_served 26 = .ok (.invokevirtual 20, 3) := by decide +kernel
set_option maxRecDepth 20000 in
theorem dX6_served_29 : decode cX6_served 29 = .ok (.bipush 6, 2) := by decide +kernel
set_option maxRecDepth 20000 in
theorem dX6_served_31 : decode cX6_served 31 = .ok (.istore_n 3, 1) := by decide +kernel
set_option maxRecDepth 20000 in
theorem dX6_served_32 : decode cX6_served 32 = .ok (.iload_n 3, 1) := by decide +kernel
set_option maxRecDepth 20000 in
theorem dX6_served_33 : decode cX6_served 33 = .ok (.ifCond .ne 8, 3) := by decide +kernel
set_option maxRecDepth 20000 in
theorem dX6_served_36 : decode cX6_served 36 = .ok (.aload_n 1, 1) := by decide +kernel
set_option maxRecDepth 20000 in
theorem dX6_served_37 : decode cX6_served 37 = .ok (.invokestatic 24, 3) := by decide +kernel
set_option maxRecDepth 20000 in
theorem dX6_served_40 : decode cX6_served 40 = .ok (.istore_n 3, 1) := by decide +kernel
set_option maxRecDepth 20000 in
theorem dX6_served_41 : decode cX6_served 41 = .ok (.iload_n 3, 1) := by decide +kernel
set_option maxRecDepth 20000 in
theorem dX6_served_42 : decode cX6_served 42 = .ok (.ifCond .ne 9, 3) := by decide +kernel
set_option maxRecDepth 20000 in
theorem dX6_served_45 : decode cX6_served 45 = .ok (.aload_n 0, 1) := by decide +kernel
set_option maxRecDepth 20000 in
theorem dX6_served_46 : decode cX6_served 46 = .ok (.aload_n 1, 1) := by decide +kernel
set_option maxRecDepth 20000 in
theorem dX6_served_47 : decode cX6_served 47 = .ok (.invokestatic 30, 3) := by decide +kernel
set_option maxRecDepth 20000 in
theorem dX6_served_50 : decode cX6_served 50 = .ok (.istore_n 3, 1) := by decide +kernel
set_option maxRecDepth 20000 in
theorem dX6_served_51 : decode cX6_served 51 = .ok (.iload_n 3, 1) := by decide +kernel
set_option maxRecDepth 20000 in
theorem dX6_served_52 : decode cX6_served 52 = .ok (.ifCond .eq 27, 3) := by decide +kernel
set_option maxRecDepth 20000 in
theorem dX6_served_55 : decode cX6_served 55 = .ok (.aload_n 2, 1) := by decide +kernel
set_option maxRecDepth 20000 in
theorem dX6_served_56 : decode cX6_served 56 = .ok (.aload_n 1, 1) := by decide +kernel
set_option maxRecDepth 20000 in
theorem dX6_served_57 : decode cX6_served 57 = .ok (.iconst 0, 1) := by decide +kernel
set_option maxRecDepth 20000 in
theorem dX6_served_58 : decode cX6_served 58 = .ok (.invokevirtual 36, 3) := by decide +kernel
set_option maxRecDepth 20000 in
theorem dX6_served_61 : decode cX6_served 61 = .ok (.sipush 128, 3) := by decide +kernel
set_option maxRecDepth 20000 in
theorem dX6_served_64 : decode cX6_served 64 = .ok (.iadd, 1) := by decide +kernel
set_option maxRecDepth 20000 in
theorem dX6_served_65 : decode cX6_served 65 = .ok (.sipush 255, 3) := by decide +kernel
set_option maxRecDepth 20000 in
theorem dX6_served_68 : decode cX6_served 68 = .ok (.iand, 1) := by decide +kernel
set_option maxRecDepth 20000 in
theorem dX6_served_69 : decode cX6_served 69 = .ok (.invokevirtual 40, 3) := by decide +kernel
set_option maxRecDepth 20000 in
theorem dX6_served_72 : decode cX6_served 72 = .ok (.aload_n 2, 1) := by decide +kernel
set_option maxRecDepth 20000 in
theorem dX6_served_73 : decode cX6_served 73 = .ok (.iload_n 3, 1) := by decide +kernel
set_option maxRecDepth 20000 in
theorem dX6_served_74 : decode cX6_served 74 = .ok (.invokevirtual 40, 3) := by decide +kernel
set_option maxRecDepth 20000 in
theorem dX6_served_77 : decode cX6_served 77 = .ok (.iload_n 3, 1) := by decide +kernel
set_option maxRecDepth 20000 in
theorem dX6_served_78 : decode cX6_served 78 = .ok (.ireturn, 1) := by decide +kernel
set_option maxRecDepth 20000 in
theorem dX6_served_79 : decode cX6_served 79 = .ok (.aload_n 1, 1) := by decide +kernel
set_option maxRecDepth 20000 in
theorem dX6_served_80 : decode cX6_served 80 = .ok (.iconst 0, 1) := by decide +kernel
set_option maxRecDepth 20000 in
theorem dX6_served_81 : decode cX6_served 81 = .ok (.invokevirtual 36, 3) := by decide +kernel
set_option maxRecDepth 20000 in
theorem dX6_served_84 : decode cX6_served 84 = .ok (.bipush 11, 2) := by decide +kernel
set_option maxRecDepth 20000 in
theorem dX6_served_86 : decode cX6_served 86 = .ok (.if_icmp .eq 19, 3) := by decide +kernel
set_option maxRecDepth 20000 in
theorem dX6_served_89 : decode cX6_served 89 = .ok (.aload_n 1, 1) := by decide +kernel
set_option maxRecDepth 20000 in
theorem dX6_served_90 : decode cX6_served 90 = .ok (.iconst 0, 1) := by decide +kernel
set_option maxRecDepth 20000 in
theorem dX6_served_91 : decode cX6_served 91 = .ok (.invokevirtual 36, 3) := by decide +kernel
set_option maxRecDepth 20000 in
theorem dX6_served_94 : decode cX6_served 94 = .ok (.bipush 12, 2) := by decide +kernel
set_option maxRecDepth 20000 in
theorem dX6_served_96 : decode cX6_served 96 = .ok (.if_icmp .eq 9, 3) := by decide +kernel
set_option maxRecDepth 20000 in
theorem dX6_served_99 : decode cX6_served 99 = .ok (.aload_n 0, 1) := by decide +kernel
set_option maxRecDepth 20000 in
theorem dX6_served_100 : decode cX6_served 100 = .ok (.bipush 8, 2) := by decide +kernel
set_option maxRecDepth 20000 in
theorem dX6_served_102 : decode cX6_served 102 = .ok (.invokevirtual 20, 3) := by decide +kernel
set_option maxRecDepth 20000 in
theorem dX6_served_105 : decode cX6_served 105 = .ok (.aload_n 1, 1) := by decide +kernel
set_option maxRecDepth 20000 in
theorem dX6_served_106 : decode cX6_served 106 = .ok (.iconst 0, 1) := by decide +kernel
set_option maxRecDepth 20000 in
theorem dX6_served_107 : decode cX6_served 107 = .ok (.invokevirtual 36, 3) := by decide +kernel
set_option maxRecDepth 20000 in
theorem dX6_served_110 : decode cX6_served 110 = .ok (.invokestatic 43, 3) := by decide +kernel
set_option maxRecDepth 20000 in
theorem dX6_served_113 : decode cX6_served 113 = .ok (.ifCond .eq 12, 3) := by decide +kernel
set_option maxRecDepth 20000 in
theorem dX6_served_116 : decode cX6_served 116 = .ok (.aload_n 0, 1) := by decide +kernel
set_option maxRecDepth 20000 in
theorem dX6_served_117 : decode cX6_served 117 = .ok (.aload_n 1, 1) := by decide +kernel
set_option maxRecDepth 20000 in
theorem dX6_served_118 : decode cX6_served 118 = .ok (.aload_n 2, 1) := by decide +kernel
set_option maxRecDepth 20000 in
theorem dX6_served_119 : decode cX6_served 119 = .ok (.invokestatic 47, 3) := by decide +kernel
set_option maxRecDepth 20000 in
theorem dX6_served_122 : decode cX6_served 122 = .ok (.goto 9, 3) := by decide +kernel
set_option maxRecDepth 20000 in
theorem dX6_served_125 : decode cX6_served 125 = .ok (.aload_n 0, 1) := by decide +kernel
set_option maxRecDepth 20000 in
theorem dX6_served_126 : decode cX6_served 126 = .ok (.aload_n 1, 1) := by decide +kernel
set_option maxRecDepth 20000 in
theorem dX6_served_127 : decode cX6_served 127 = .ok (.aload_n 2, 1) := by decide +kernel
set_option maxRecDepth 20000 in
theorem dX6_served_128 : decode cX6_served 128 = .ok (.invokestatic 51, 3) := by decide +kernel
set_option maxRecDepth 20000 in
theorem dX6_served_131 : decode cX6_served 131 = .ok (.iconst 0, 1) := by decide +kernel
set_option maxRecDepth 20000 in
theorem dX6_served_132 : decode cX6_served 132 = .ok (.ireturn, 1) := by decide +kernel
set_option maxRecDepth 20000 in
theorem dX6_faultHere_0 : decode cX6_faultHere 0 = .ok (.aload_n 1, 1) := by decide +kernel
set_option maxRecDepth 20000 in
theorem dX6_faultHere_1 : decode cX6_faultHere 1 = .ok (.iconst 1, 1) := by decide +kernel
set_option maxRecDepth 20000 in
theorem dX6_faultHere_2 : decode cX6_faultHere 2 = .ok (.invokevirtual 54, 3) := by decide +kernel
set_option maxRecDepth 20000 in
theorem dX6_faultHere_5 : decode cX6_faultHere 5 = .ok (.istore_n 2, 1) := by decide +kernel
set_option maxRecDepth 20000 in
theorem dX6_faultHere_6 : decode cX6_faultHere 6 = .ok (.aload_n 1, 1) := by decide +kernel
set_option maxRecDepth 20000 in
theorem dX6_faultHere_7 : decode cX6_faultHere 7 = .ok (.iconst 0, 1) := by decide +kernel
set_option maxRecDepth 20000 in
theorem dX6_faultHere_8 : decode cX6_faultHere 8 = .ok (.invokevirtual 36, 3) := by decide +kernel
set_option maxRecDepth 20000 in
theorem dX6_faultHere_11 : decode cX6_faultHere 11 = .ok (.tableswitch 424 1 43 #[185, 207, 229, 251, 273, 311, 424, 320, 424, 424, 424, 424, 424, 424, 185, 325, 424, 424, 424, 339, 339, 345, 351, 388, 424, 424, 424, 424, 424, 424, 424, 424, 424, 424, 424, 424, 424, 424, 424, 424, 424, 424, 394], 185) := by decide +kernel
set_option maxRecDepth 20000 in
theorem dX6_faultHere_196 : decode cX6_faultHere 196 = .ok (.aload_n 0, 1) := by decide +kernel
set_option maxRecDepth 20000 in
theorem dX6_faultHere_197 : decode cX6_faultHere 197 = .ok (.getfield 57, 3) := by decide +kernel
set_option maxRecDepth 20000 in
theorem dX6_faultHere_200 : decode cX6_faultHere 200 = .ok (.iload_n 2, 1) := by decide +kernel
set_option maxRecDepth 20000 in
theorem dX6_faultHere_201 : decode cX6_faultHere 201 = .ok (.aload_n 1, 1) := by decide +kernel
set_option maxRecDepth 20000 in
theorem dX6_faultHere_202 : decode cX6_faultHere 202 = .ok (.iconst 3, 1) := by decide +kernel
set_option maxRecDepth 20000 in
theorem dX6_faultHere_203 : decode cX6_faultHere 203 = .ok (.invokevirtual 54, 3) := by decide +kernel
set_option maxRecDepth 20000 in
theorem dX6_faultHere_206 : decode cX6_faultHere 206 = .ok (.invokevirtual 61, 3) := by decide +kernel
set_option maxRecDepth 20000 in
theorem dX6_faultHere_209 : decode cX6_faultHere 209 = .ok (.ifCond .eq 7, 3) := by decide +kernel
set_option maxRecDepth 20000 in
theorem dX6_faultHere_212 : decode cX6_faultHere 212 = .ok (.iconst 0, 1) := by decide +kernel
set_option maxRecDepth 20000 in
theorem dX6_faultHere_213 : decode cX6_faultHere 213 = .ok (.goto 4, 3) := by decide +kernel
set_option maxRecDepth 20000 in
theorem dX6_faultHere_216 : decode cX6_faultHere 216 = .ok (.iconst 2, 1) := by decide +kernel
set_option maxRecDepth 20000 in
theorem dX6_faultHere_217 : decode cX6_faultHere 217 = .ok (.ireturn, 1) := by decide +kernel
set_option maxRecDepth 20000 in
theorem dX6_faultHere_218 : decode cX6_faultHere 218 = .ok (.aload_n 0, 1) := by decide +kernel
set_option maxRecDepth 20000 in
theorem dX6_faultHere_219 : decode cX6_faultHere 219 = .ok (.getfield 67, 3) := by decide +kernel
set_option maxRecDepth 20000 in
theorem dX6_faultHere_222 : decode cX6_faultHere 222 = .ok (.iload_n 2, 1) := by decide +kernel
set_option maxRecDepth 20000 in
theorem dX6_faultHere_223 : decode cX6_faultHere 223 = .ok (.aload_n 1, 1) := by decide +kernel
set_option maxRecDepth 20000 in
theorem dX6_faultHere_224 : decode cX6_faultHere 224 = .ok (.iconst 3, 1) := by decide +kernel
set_option maxRecDepth 20000 in
theorem dX6_faultHere_225 : decode cX6_faultHere 225 = .ok (.invokevirtual 54, 3) := by decide +kernel
set_option maxRecDepth 20000 in
theorem dX6_faultHere_228 : decode cX6_faultHere 228 = .ok (.invokevirtual 61, 3) := by decide +kernel
set_option maxRecDepth 20000 in
theorem dX6_faultHere_231 : decode cX6_faultHere 231 = .ok (.ifCond .eq 7, 3) := by decide +kernel
set_option maxRecDepth 20000 in
theorem dX6_faultHere_234 : decode cX6_faultHere 234 = .ok (.iconst 0, 1) := by decide +kernel
set_option maxRecDepth 20000 in
theorem dX6_faultHere_235 : decode cX6_faultHere 235 = .ok (.goto 4, 3) := by decide +kernel
set_option maxRecDepth 20000 in
theorem dX6_faultHere_238 : decode cX6_faultHere 238 = .ok (.iconst 2, 1) := by decide +kernel
set_option maxRecDepth 20000 in
theorem dX6_faultHere_239 : decode cX6_faultHere 239 = .ok (.ireturn, 1) := by decide +kernel
set_option maxRecDepth 20000 in
theorem dX6_faultHere_240 : decode cX6_faultHere 240 = .ok (.aload_n 0, 1) := by decide +kernel
set_option maxRecDepth 20000 in
theorem dX6_faultHere_241 : decode cX6_faultHere 241 = .ok (.getfield 70, 3) := by decide +kernel
set_option maxRecDepth 20000 in
theorem dX6_faultHere_244 : decode cX6_faultHere 244 = .ok (.iload_n 2, 1) := by decide +kernel
set_option maxRecDepth 20000 in
theorem dX6_faultHere_245 : decode cX6_faultHere 245 = .ok (.aload_n 1, 1) := by decide +kernel
set_option maxRecDepth 20000 in
theorem dX6_faultHere_246 : decode cX6_faultHere 246 = .ok (.iconst 3, 1) := by decide +kernel
set_option maxRecDepth 20000 in
theorem dX6_faultHere_247 : decode cX6_faultHere 247 = .ok (.invokevirtual 54, 3) := by decide +kernel
set_option maxRecDepth 20000 in
theorem dX6_faultHere_250 : decode cX6_faultHere 250 = .ok (.invokevirtual 61, 3) := by decide +kernel
set_option maxRecDepth 20000 in
theorem dX6_faultHere_253 : decode cX6_faultHere 253 = .ok (.ifCond .eq 7, 3) := by decide +kernel
set_option maxRecDepth 20000 in
theorem dX6_faultHere_256 : decode cX6_faultHere 256 = .ok (.iconst 0, 1) := by decide +kernel
set_option maxRecDepth 20000 in
theorem dX6_faultHere_257 : decode cX6_faultHere 257 = .ok (.goto 4, 3) := by decide +kernel
set_option maxRecDepth 20000 in
theorem dX6_faultHere_260 : decode cX6_faultHere 260 = .ok (.iconst 2, 1) := by decide +kernel
set_option maxRecDepth 20000 in
theorem dX6_faultHere_261 : decode cX6_faultHere 261 = .ok (.ireturn, 1) := by decide +kernel
set_option maxRecDepth 20000 in
theorem dX6_faultHere_262 : decode cX6_faultHere 262 = .ok (.aload_n 0, 1) := by decide +kernel
set_option maxRecDepth 20000 in
theorem dX6_faultHere_263 : decode cX6_faultHere 263 = .ok (.getfield 73, 3) := by decide +kernel
set_option maxRecDepth 20000 in
theorem dX6_faultHere_266 : decode cX6_faultHere 266 = .ok (.iload_n 2, 1) := by decide +kernel
set_option maxRecDepth 20000 in
theorem dX6_faultHere_267 : decode cX6_faultHere 267 = .ok (.aload_n 1, 1) := by decide +kernel
set_option maxRecDepth 20000 in
theorem dX6_faultHere_268 : decode cX6_faultHere 268 = .ok (.iconst 3, 1) := by decide +kernel
set_option maxRecDepth 20000 in
theorem dX6_faultHere_269 : decode cX6_faultHere 269 = .ok (.invokevirtual 54, 3) := by decide +kernel
set_option maxRecDepth 20000 in
theorem dX6_faultHere_272 : decode cX6_faultHere 272 = .ok (.invokevirtual 61, 3) := by decide +kernel
set_option maxRecDepth 20000 in
theorem dX6_faultHere_275 : decode cX6_faultHere 275 = .ok (.ifCond .eq 7, 3) := by decide +kernel
set_option maxRecDepth 20000 in
theorem dX6_faultHere_278 : decode cX6_faultHere 278 = .ok (.iconst 0, 1) := by decide +kernel
set_option maxRecDepth 20000 in
theorem dX6_faultHere_279 : decode cX6_faultHere 279 = .ok (.goto 4, 3) := by decide +kernel
set_option maxRecDepth 20000 in
theorem dX6_faultHere_282 : decode cX6_faultHere 282 = .ok (.iconst 2, 1) := by decide +kernel
set_option maxRecDepth 20000 in
theorem dX6_faultHere_283 : decode cX6_faultHere 283 = .ok (.ireturn, 1) := by decide +kernel
set_option maxRecDepth 20000 in
theorem dX6_faultHere_284 : decode cX6_faultHere 284 = .ok (.aload_n 1, 1) := by decide +kernel
set_option maxRecDepth 20000 in
theorem dX6_faultHere_285 : decode cX6_faultHere 285 = .ok (.iconst 3, 1) := by decide +kernel
set_option maxRecDepth 20000 in
theorem dX6_faultHere_286 : decode cX6_faultHere 286 = .ok (.invokevirtual 54, 3) := by decide +kernel
set_option maxRecDepth 20000 in
theorem dX6_faultHere_289 : decode cX6_faultHere 289 = .ok (.ifCond .eq 15, 3) := by decide +kernel
set_option maxRecDepth 20000 in
theorem dX6_faultHere_292 : decode cX6_faultHere 292 = .ok (.aload_n 1, 1) := by decide +kernel
set_option maxRecDepth 20000 in
theorem dX6_faultHere_293 : decode cX6_faultHere 293 = .ok (.iconst 3, 1) := by decide +kernel
set_option maxRecDepth 20000 in
theorem dX6_faultHere_294 : decode cX6_faultHere 294 = .ok (.invokevirtual 54, 3) := by decide +kernel
set_option maxRecDepth 20000 in
theorem dX6_faultHere_297 : decode cX6_faultHere 297 = .ok (.ldc 76, 2) := by decide +kernel
set_option maxRecDepth 20000 in
theorem dX6_faultHere_299 : decode cX6_faultHere 299 = .ok (.if_icmp .eq 5, 3) := by decide +kernel
set_option maxRecDepth 20000 in
theorem dX6_faultHere_302 : decode cX6_faultHere 302 = .ok (.iconst 3, 1) := by decide +kernel
set_option maxRecDepth 20000 in
theorem dX6_faultHere_303 : decode cX6_faultHere 303 = .ok (.ireturn, 1) := by decide +kernel
set_option maxRecDepth 20000 in
theorem dX6_faultHere_304 : decode cX6_faultHere 304 = .ok (.aload_n 0, 1) := by decide +kernel
set_option maxRecDepth 20000 in
theorem dX6_faultHere_305 : decode cX6_faultHere 305 = .ok (.getfield 57, 3) := by decide +kernel
set_option maxRecDepth 20000 in
theorem dX6_faultHere_308 : decode cX6_faultHere 308 = .ok (.iload_n 2, 1) := by decide +kernel
set_option maxRecDepth 20000 in
theorem dX6_faultHere_309 : decode cX6_faultHere 309 = .ok (.iconst 1, 1) := by decide +kernel
set_option maxRecDepth 20000 in
theorem dX6_faultHere_310 : decode cX6_faultHere 310 = .ok (.invokevirtual 61, 3) := by decide +kernel
set_option maxRecDepth 20000 in
theorem dX6_faultHere_313 : decode cX6_faultHere 313 = .ok (.ifCond .eq 7, 3) := by decide +kernel
set_option maxRecDepth 20000 in
theorem dX6_faultHere_316 : decode cX6_faultHere 316 = .ok (.iconst 0, 1) := by decide +kernel
set_option maxRecDepth 20000 in
theorem dX6_faultHere_317 : decode cX6_faultHere 317 = .ok (.goto 4, 3) := by decide +kernel
set_option maxRecDepth 20000 in
theorem dX6_faultHere_320 : decode cX6_faultHere 320 = .ok (.iconst 2, 1) := by decide +kernel
set_option maxRecDepth 20000 in
theorem dX6_faultHere_321 : decode cX6_faultHere 321 = .ok (.ireturn, 1) := by decide +kernel
set_option maxRecDepth 20000 in
theorem dX6_faultHere_322 : decode cX6_faultHere 322 = .ok (.aload_n 0, 1) := by decide +kernel
set_option maxRecDepth 20000 in
theorem dX6_faultHere_323 : decode cX6_faultHere 323 = .ok (.iload_n 2, 1) := by decide +kernel
set_option maxRecDepth 20000 in
theorem dX6_faultHere_324 : decode cX6_faultHere 324 = .ok (.iconst 1, 1) := by decide +kernel
set_option maxRecDepth 20000 in
theorem dX6_faultHere_325 : decode cX6_faultHere 325 = .ok (.aload_n 1, 1) := by decide +kernel
set_option maxRecDepth 20000 in
theorem dX6_faultHere_326 : decode cX6_faultHere 326 = .ok (.iconst 3, 1) := by decide +kernel
set_option maxRecDepth 20000 in
theorem dX6_faultHere_327 : decode cX6_faultHere 327 = .ok (.invokevirtual 77, 3) := by decide +kernel
set_option maxRecDepth 20000 in
theorem dX6_faultHere_330 : decode cX6_faultHere 330 = .ok (.ireturn, 1) := by decide +kernel
set_option maxRecDepth 20000 in
theorem dX6_faultHere_331 : decode cX6_faultHere 331 = .ok (.aload_n 1, 1) := by decide +kernel
set_option maxRecDepth 20000 in
theorem dX6_faultHere_332 : decode cX6_faultHere 332 = .ok (.invokestatic 81, 3) := by decide +kernel
set_option maxRecDepth 20000 in
theorem dX6_faultHere_335 : decode cX6_faultHere 335 = .ok (.ireturn, 1) := by decide +kernel
set_option maxRecDepth 20000 in
theorem dX6_faultHere_336 : decode cX6_faultHere 336 = .ok (.aload_n 0, 1) := by decide +kernel
set_option maxRecDepth 20000 in
theorem dX6_faultHere_337 : decode cX6_faultHere 337 = .ok (.iload_n 2, 1) := by decide +kernel
set_option maxRecDepth 20000 in
theorem dX6_faultHere_338 : decode cX6_faultHere 338 = .ok (.aload_n 1, 1) := by decide +kernel
set_option maxRecDepth 20000 in
theorem dX6_faultHere_339 : decode cX6_faultHere 339 = .ok (.iconst 3, 1) := by decide +kernel
set_option maxRecDepth 20000 in
theorem dX6_faultHere_340 : decode cX6_faultHere 340 = .ok (.invokevirtual 54, 3) := by decide +kernel
set_option maxRecDepth 20000 in
theorem dX6_faultHere_343 : decode cX6_faultHere 343 = .ok (.aload_n 1, 1) := by decide +kernel
set_option maxRecDepth 20000 in
theorem dX6_faultHere_344 : decode cX6_faultHere 344 = .ok (.bipush 6, 2) := by decide +kernel
set_option maxRecDepth 20000 in
theorem dX6_faultHere_346 : decode cX6_faultHere 346 = .ok (.invokevirtual 77, 3) := by decide +kernel
set_option maxRecDepth 20000 in
theorem dX6_faultHere_349 : decode cX6_faultHere 349 = .ok (.ireturn, 1) := by decide +kernel
set_option maxRecDepth 20000 in
theorem dX6_faultHere_350 : decode cX6_faultHere 350 = .ok (.aload_n 0, 1) := by decide +kernel
set_option maxRecDepth 20000 in
theorem dX6_faultHere_351 : decode cX6_faultHere 351 = .ok (.aload_n 1, 1) := by decide +kernel
set_option maxRecDepth 20000 in
theorem dX6_faultHere_352 : decode cX6_faultHere 352 = .ok (.invokestatic 84, 3) := by decide +kernel
set_option maxRecDepth 20000 in
theorem dX6_faultHere_355 : decode cX6_faultHere 355 = .ok (.ireturn, 1) := by decide +kernel
set_option maxRecDepth 20000 in
theorem dX6_faultHere_356 : decode cX6_faultHere 356 = .ok (.aload_n 0, 1) := by decide +kernel
set_option maxRecDepth 20000 in
theorem dX6_faultHere_357 : decode cX6_faultHere 357 = .ok (.aload_n 1, 1) := by decide +kernel
set_option maxRecDepth 20000 in
theorem dX6_faultHere_358 : decode cX6_faultHere 358 = .ok (.invokestatic 87, 3) := by decide +kernel
set_option maxRecDepth 20000 in
theorem dX6_faultHere_361 : decode cX6_faultHere 361 = .ok (.ireturn, 1) := by decide +kernel
set_option maxRecDepth 20000 in
theorem dX6_faultHere_362 : decode cX6_faultHere 362 = .ok (.aload_n 0, 1) := by decide +kernel
set_option maxRecDepth 20000 in
theorem dX6_faultHere_363 : decode cX6_faultHere 363 = .ok (.getfield 70, 3) := by decide +kernel
set_option maxRecDepth 20000 in
theorem dX6_faultHere_366 : decode cX6_faultHere 366 = .ok (.iload_n 2, 1) := by decide +kernel
set_option maxRecDepth 20000 in
theorem dX6_faultHere_367 : decode cX6_faultHere 367 = .ok (.aload_n 1, 1) := by decide +kernel
set_option maxRecDepth 20000 in
theorem dX6_faultHere_368 : decode cX6_faultHere 368 = .ok (.iconst 3, 1) := by decide +kernel
set_option maxRecDepth 20000 in
theorem dX6_faultHere_369 : decode cX6_faultHere 369 = .ok (.invokevirtual 54, 3) := by decide +kernel
set_option maxRecDepth 20000 in
theorem dX6_faultHere_372 : decode cX6_faultHere 372 = .ok (.invokevirtual 61, 3) := by decide +kernel
set_option maxRecDepth 20000 in
theorem dX6_faultHere_375 : decode cX6_faultHere 375 = .ok (.ifCond .ne 5, 3) := by decide +kernel
set_option maxRecDepth 20000 in
theorem dX6_faultHere_378 : decode cX6_faultHere 378 = .ok (.iconst 2, 1) := by decide +kernel
set_option maxRecDepth 20000 in
theorem dX6_faultHere_379 : decode cX6_faultHere 379 = .ok (.ireturn, 1) := by decide +kernel
set_option maxRecDepth 20000 in
theorem dX6_faultHere_380 : decode cX6_faultHere 380 = .ok (.aload_n 0, 1) := by decide +kernel
set_option maxRecDepth 20000 in
theorem dX6_faultHere_381 : decode cX6_faultHere 381 = .ok (.aload_n 1, 1) := by decide +kernel
set_option maxRecDepth 20000 in
theorem dX6_faultHere_382 : decode cX6_faultHere 382 = .ok (.iconst 5, 1) := by decide +kernel
set_option maxRecDepth 20000 in
theorem dX6_faultHere_383 : decode cX6_faultHere 383 = .ok (.invokevirtual 54, 3) := by decide +kernel
set_option maxRecDepth 20000 in
theorem dX6_faultHere_386 : decode cX6_faultHere 386 = .ok (.aload_n 1, 1) := by decide +kernel
set_option maxRecDepth 20000 in
theorem dX6_faultHere_387 : decode cX6_faultHere 387 = .ok (.bipush 7, 2) := by decide +kernel
set_option maxRecDepth 20000 in
theorem dX6_faultHere_389 : decode cX6_faultHere 389 = .ok (.invokevirtual 54, 3) := by decide +kernel
set_option maxRecDepth 20000 in
theorem dX6_faultHere_392 : decode cX6_faultHere 392 = .ok (.aload_n 1, 1) := by decide +kernel
set_option maxRecDepth 20000 in
theorem dX6_faultHere_393 : decode cX6_faultHere 393 = .ok (.bipush 10, 2) := by decide +kernel
set_option maxRecDepth 20000 in
theorem dX6_faultHere_395 : decode cX6_faultHere 395 = .ok (.invokevirtual 77, 3) := by decide +kernel
set_option maxRecDepth 20000 in
theorem dX6_faultHere_398 : decode cX6_faultHere 398 = .ok (.ireturn, 1) := by decide +kernel
set_option maxRecDepth 20000 in
theorem dX6_faultHere_399 : decode cX6_faultHere 399 = .ok (.aload_n 0, 1) := by decide +kernel
set_option maxRecDepth 20000 in
theorem dX6_faultHere_400 : decode cX6_faultHere 400 = .ok (.iload_n 2, 1) := by decide +kernel
set_option maxRecDepth 20000 in
theorem dX6_faultHere_401 : decode cX6_faultHere 401 = .ok (.invokestatic 90, 3) := by decide +kernel
set_option maxRecDepth 20000 in
theorem dX6_faultHere_404 : decode cX6_faultHere 404 = .ok (.ireturn, 1) := by decide +kernel
set_option maxRecDepth 20000 in
theorem dX6_faultHere_405 : decode cX6_faultHere 405 = .ok (.aload_n 1, 1) := by decide +kernel
set_option maxRecDepth 20000 in
theorem dX6_faultHere_406 : decode cX6_faultHere 406 = .ok (.iconst 2, 1) := by decide +kernel
set_option maxRecDepth 20000 in
theorem dX6_faultHere_407 : decode cX6_faultHere 407 = .ok (.invokevirtual 36, 3) := by decide +kernel
set_option maxRecDepth 20000 in
theorem dX6_faultHere_410 : decode cX6_faultHere 410 = .ok (.iconst 4, 1) := by decide +kernel
set_option maxRecDepth 20000 in
theorem dX6_faultHere_411 : decode cX6_faultHere 411 = .ok (.if_icmp .ne 22, 3) := by decide +kernel
set_option maxRecDepth 20000 in
theorem dX6_faultHere_414 : decode cX6_faultHere 414 = .ok (.aload_n 0, 1) := by decide +kernel
set_option maxRecDepth 20000 in
theorem dX6_faultHere_415 : decode cX6_faultHere 415 = .ok (.getfield 94, 3) := by decide +kernel
set_option maxRecDepth 20000 in
theorem dX6_faultHere_418 : decode cX6_faultHere 418 = .ok (.aload_n 1, 1) := by decide +kernel
set_option maxRecDepth 20000 in
theorem dX6_faultHere_419 : decode cX6_faultHere 419 = .ok (.iconst 3, 1) := by decide +kernel
set_option maxRecDepth 20000 in
theorem dX6_faultHere_420 : decode cX6_faultHere 420 = .ok (.invokevirtual 36, 3) := by decide +kernel
set_option maxRecDepth 20000 in
theorem dX6_faultHere_423 : decode cX6_faultHere 423 = .ok (.invokevirtual 98, 3) := by decide +kernel
set_option maxRecDepth 20000 in
theorem dX6_faultHere_426 : decode cX6_faultHere 426 = .ok (.ifnonnull 7, 3) := by decide +kernel
set_option maxRecDepth 20000 in
theorem dX6_faultHere_429 : decode cX6_faultHere 429 = .ok (.iconst 2, 1) := by decide +kernel
set_option maxRecDepth 20000 in
theorem dX6_faultHere_430 : decode cX6_faultHere 430 = .ok (.goto 4, 3) := by decide +kernel
set_option maxRecDepth 20000 in
theorem dX6_faultHere_433 : decode cX6_faultHere 433 = .ok (.iconst 0, 1) := by decide +kernel
set_option maxRecDepth 20000 in
theorem dX6_faultHere_434 : decode cX6_faultHere 434 = .ok (.ireturn, 1) := by decide +kernel
set_option maxRecDepth 20000 in
theorem dX6_faultHere_435 : decode cX6_faultHere 435 = .ok (.iconst 0, 1) := by decide +kernel
set_option maxRecDepth 20000 in
theorem dX6_faultHere_436 : decode cX6_faultHere 436 = .ok (.ireturn, 1) := by decide +kernel
set_option maxRecDepth 20000 in
theorem dX6_diagnosisFault_0 : decode cX6_diagnosisFault 0 = .ok (.aload_n 0, 1) := by decide +kernel
set_option maxRecDepth 20000 in
theorem dX6_diagnosisFault_1 : decode cX6_diagnosisFault 1 = .ok (.iconst 1, 1) := by decide +kernel
set_option maxRecDepth 20000 in
theorem dX6_diagnosisFault_2 : decode cX6_diagnosisFault 2 = .ok (.invokevirtual 54, 3) := by decide +kernel
set_option maxRecDepth 20000 in
theorem dX6_diagnosisFault_5 : decode cX6_diagnosisFault 5 = .ok (.istore_n 1, 1) := by decide +kernel
set_option maxRecDepth 20000 in
theorem dX6_diagnosisFault_6 : decode cX6_diagnosisFault 6 = .ok (.aload_n 0, 1) := by decide +kernel
set_option maxRecDepth 20000 in
theorem dX6_diagnosisFault_7 : decode cX6_diagnosisFault 7 = .ok (.iconst 3, 1) := by decide +kernel
set_option maxRecDepth 20000 in
theorem dX6_diagnosisFault_8 : decode cX6_diagnosisFault 8 = .ok (.invokevirtual 54, 3) := by decide +kernel
set_option maxRecDepth 20000 in
theorem dX6_diagnosisFault_11 : decode cX6_diagnosisFault 11 = .ok (.istore_n 2, 1) := by decide +kernel
set_option maxRecDepth 20000 in
theorem dX6_diagnosisFault_12 : decode cX6_diagnosisFault 12 = .ok (.iload_n 1, 1) := by decide +kernel
set_option maxRecDepth 20000 in
theorem dX6_diagnosisFault_13 : decode cX6_diagnosisFault 13 = .ok (.ifCond .eq 18, 3) := by decide +kernel
set_option maxRecDepth 20000 in
theorem dX6_diagnosisFault_16 : decode cX6_diagnosisFault 16 = .ok (.iload_n 2, 1) := by decide +kernel
set_option maxRecDepth 20000 in
theorem dX6_diagnosisFault_17 : decode cX6_diagnosisFault 17 = .ok (.ifCond .eq 14, 3) := by decide +kernel
set_option maxRecDepth 20000 in
theorem dX6_diagnosisFault_20 : decode cX6_diagnosisFault 20 = .ok (.iload_n 1, 1) := by decide +kernel
set_option maxRecDepth 20000 in
theorem dX6_diagnosisFault_21 : decode cX6_diagnosisFault 21 = .ok (.iconst 1, 1) := by decide +kernel
set_option maxRecDepth 20000 in
theorem dX6_diagnosisFault_22 : decode cX6_diagnosisFault 22 = .ok (.if_icmp .ne 13, 3) := by decide +kernel
set_option maxRecDepth 20000 in
theorem dX6_diagnosisFault_25 : decode cX6_diagnosisFault 25 = .ok (.iload_n 2, 1) := by decide +kernel
set_option maxRecDepth 20000 in
theorem dX6_diagnosisFault_26 : decode cX6_diagnosisFault 26 = .ok (.ldc 76, 2) := by decide +kernel
set_option maxRecDepth 20000 in
theorem dX6_diagnosisFault_28 : decode cX6_diagnosisFault 28 = .ok (.if_icmp .ne 7, 3) := by decide +kernel
set_option maxRecDepth 20000 in
theorem dX6_diagnosisFault_31 : decode cX6_diagnosisFault 31 = .ok (.iconst 1, 1) := by decide +kernel
set_option maxRecDepth 20000 in
theorem dX6_diagnosisFault_32 : decode cX6_diagnosisFault 32 = .ok (.goto 4, 3) := by decide +kernel
set_option maxRecDepth 20000 in
theorem dX6_diagnosisFault_35 : decode cX6_diagnosisFault 35 = .ok (.iconst 0, 1) := by decide +kernel
set_option maxRecDepth 20000 in
theorem dX6_diagnosisFault_36 : decode cX6_diagnosisFault 36 = .ok (.istore_n 3, 1) := by decide +kernel
set_option maxRecDepth 20000 in
theorem dX6_diagnosisFault_37 : decode cX6_diagnosisFault 37 = .ok (.iload_n 3, 1) := by decide +kernel
set_option maxRecDepth 20000 in
theorem dX6_diagnosisFault_38 : decode cX6_diagnosisFault 38 = .ok (.ifCond .eq 7, 3) := by decide +kernel
set_option maxRecDepth 20000 in
theorem dX6_diagnosisFault_41 : decode cX6_diagnosisFault 41 = .ok (.iconst 0, 1) := by decide +kernel
set_option maxRecDepth 20000 in
theorem dX6_diagnosisFault_42 : decode cX6_diagnosisFault 42 = .ok (.goto 4, 3) := by decide +kernel
set_option maxRecDepth 20000 in
theorem dX6_diagnosisFault_45 : decode cX6_diagnosisFault 45 = .ok (.iconst 3, 1) := by decide +kernel
set_option maxRecDepth 20000 in
theorem dX6_diagnosisFault_46 : decode cX6_diagnosisFault 46 = .ok (.ireturn, 1) := by decide +kernel
set_option maxRecDepth 20000 in
theorem dX6_filesFault_0 : decode cX6_filesFault 0 = .ok (.aload_n 1, 1) := by decide +kernel
set_option maxRecDepth 20000 in
theorem dX6_filesFault_1 : decode cX6_filesFault 1 = .ok (.iconst 0, 1) := by decide +kernel
set_option maxRecDepth 20000 in
theorem dX6_filesFault_2 : decode cX6_filesFault 2 = .ok (.invokevirtual 36, 3) := by decide +kernel
set_option maxRecDepth 20000 in
theorem dX6_filesFault_5 : decode cX6_filesFault 5 = .ok (.bipush 21, 2) := by decide +kernel
set_option maxRecDepth 20000 in
theorem dX6_filesFault_7 : decode cX6_filesFault 7 = .ok (.if_icmp .ne 7, 3) := by decide +kernel
set_option maxRecDepth 20000 in
theorem dX6_filesFault_10 : decode cX6_filesFault 10 = .ok (.iconst 2, 1) := by decide +kernel
set_option maxRecDepth 20000 in
theorem dX6_filesFault_11 : decode cX6_filesFault 11 = .ok (.goto 4, 3) := by decide +kernel
set_option maxRecDepth 20000 in
theorem dX6_filesFault_14 : decode cX6_filesFault 14 = .ok (.iconst 0, 1) := by decide +kernel
set_option maxRecDepth 20000 in
theorem dX6_filesFault_15 : decode cX6_filesFault 15 = .ok (.istore_n 2, 1) := by decide +kernel
set_option maxRecDepth 20000 in
theorem dX6_filesFault_16 : decode cX6_filesFault 16 = .ok (.iconst 2, 1) := by decide +kernel
set_option maxRecDepth 20000 in
theorem dX6_filesFault_17 : decode cX6_filesFault 17 = .ok (.istore_n 3, 1) := by decide +kernel
set_option maxRecDepth 20000 in
theorem dX6_filesFault_18 : decode cX6_filesFault 18 = .ok (.iconst 0, 1) := by decide +kernel
set_option maxRecDepth 20000 in
theorem dX6_filesFault_19 : decode cX6_filesFault 19 = .ok (.istore 4, 2) := by decide +kernel
set_option maxRecDepth 20000 in
theorem dX6_filesFault_21 : decode cX6_filesFault 21 = .ok (.iload 4, 2) := by decide +kernel
set_option maxRecDepth 20000 in
theorem dX6_filesFault_23 : decode cX6_filesFault 23 = .ok (.bipush 36, 2) := by decide +kernel
set_option maxRecDepth 20000 in
theorem dX6_filesFault_25 : decode cX6_filesFault 25 = .ok (.if_icmp .ge 87, 3) := by decide +kernel
set_option maxRecDepth 20000 in
theorem dX6_filesFault_28 : decode cX6_filesFault 28 = .ok (.iload_n 3, 1) := by decide +kernel
set_option maxRecDepth 20000 in
theorem dX6_filesFault_29 : decode cX6_filesFault 29 = .ok (.aload_n 1, 1) := by decide +kernel
set_option maxRecDepth 20000 in
theorem dX6_filesFault_30 : decode cX6_filesFault 30 = .ok (.getfield 104, 3) := by decide +kernel
set_option maxRecDepth 20000 in
theorem dX6_filesFault_33 : decode cX6_filesFault 33 = .ok (.if_icmp .ge 79, 3) := by decide +kernel
set_option maxRecDepth 20000 in
theorem dX6_filesFault_36 : decode cX6_filesFault 36 = .ok (.aload_n 0, 1) := by decide +kernel
set_option maxRecDepth 20000 in
theorem dX6_filesFault_37 : decode cX6_filesFault 37 = .ok (.getfield 107, 3) := by decide +kernel
set_option maxRecDepth 20000 in
theorem dX6_filesFault_40 : decode cX6_filesFault 40 = .ok (.aload_n 1, 1) := by decide +kernel
set_option maxRecDepth 20000 in
theorem dX6_filesFault_41 : decode cX6_filesFault 41 = .ok (.iload_n 3, 1) := by decide +kernel
set_option maxRecDepth 20000 in
theorem dX6_filesFault_42 : decode cX6_filesFault 42 = .ok (.iconst 1, 1) := by decide +kernel
set_option maxRecDepth 20000 in
theorem dX6_filesFault_43 : decode cX6_filesFault 43 = .ok (.iadd, 1) := by decide +kernel
set_option maxRecDepth 20000 in
theorem dX6_filesFault_44 : decode cX6_filesFault 44 = .ok (.invokevirtual 54, 3) := by decide +kernel
set_option maxRecDepth 20000 in
theorem dX6_filesFault_47 : decode cX6_filesFault 47 = .ok (.invokevirtual 98, 3) := by decide +kernel
set_option maxRecDepth 20000 in
theorem dX6_filesFault_50 : decode cX6_filesFault 50 = .ok (.astore 5, 2) := by decide +kernel
set_option maxRecDepth 20000 in
theorem dX6_filesFault_52 : decode cX6_filesFault 52 = .ok (.aload_n 1, 1) := by decide +kernel
set_option maxRecDepth 20000 in
theorem dX6_filesFault_53 : decode cX6_filesFault 53 = .ok (.iload_n 3, 1) := by decide +kernel
set_option maxRecDepth 20000 in
theorem dX6_filesFault_54 : decode cX6_filesFault 54 = .ok (.iconst 5, 1) := by decide +kernel
set_option maxRecDepth 20000 in
theorem dX6_filesFault_55 : decode cX6_filesFault 55 = .ok (.iadd, 1) := by decide +kernel
set_option maxRecDepth 20000 in
theorem dX6_filesFault_56 : decode cX6_filesFault 56 = .ok (.invokevirtual 54, 3) := by decide +kernel
set_option maxRecDepth 20000 in
theorem dX6_filesFault_59 : decode cX6_filesFault 59 = .ok (.istore 6, 2) := by decide +kernel
set_option maxRecDepth 20000 in
theorem dX6_filesFault_61 : decode cX6_filesFault 61 = .ok (.aload_n 1, 1) := by decide +kernel
set_option maxRecDepth 20000 in
theorem dX6_filesFault_62 : decode cX6_filesFault 62 = .ok (.iload_n 3, 1) := by decide +kernel
set_option maxRecDepth 20000 in
theorem dX6_filesFault_63 : decode cX6_filesFault 63 = .ok (.invokevirtual 36, 3) := by decide +kernel
set_option maxRecDepth 20000 in
theorem dX6_filesFault_66 : decode cX6_filesFault 66 = .ok (.bipush 6, 2) := by decide +kernel
set_option maxRecDepth 20000 in
theorem dX6_filesFault_68 : decode cX6_filesFault 68 = .ok (.if_icmp .ne 26, 3) := by decide +kernel
set_option maxRecDepth 20000 in
theorem dX6_filesFault_71 : decode cX6_filesFault 71 = .ok (.aload 5, 2) := by decide +kernel
set_option maxRecDepth 20000 in
theorem dX6_filesFault_73 : decode cX6_filesFault 73 = .ok (.ifnull 21, 3) := by decide +kernel
set_option maxRecDepth 20000 in
theorem dX6_filesFault_76 : decode cX6_filesFault 76 = .ok (.aload_n 1, 1) := by decide +kernel
set_option maxRecDepth 20000 in
theorem dX6_filesFault_77 : decode cX6_filesFault 77 = .ok (.iload_n 3, 1) := by decide +kernel
set_option maxRecDepth 20000 in
theorem dX6_filesFault_78 : decode cX6_filesFault 78 = .ok (.iconst 3, 1) := by decide +kernel
set_option maxRecDepth 20000 in
theorem dX6_filesFault_79 : decode cX6_filesFault 79 = .ok (.iadd, 1) := by decide +kernel
set_option maxRecDepth 20000 in
theorem dX6_filesFault_80 : decode cX6_filesFault 80 = .ok (.invokevirtual 54, 3) := by decide +kernel
set_option maxRecDepth 20000 in
theorem dX6_filesFault_83 : decode cX6_filesFault 83 = .ok (.iload 6, 2) := by decide +kernel
set_option maxRecDepth 20000 in
theorem dX6_filesFault_85 : decode cX6_filesFault 85 = .ok (.iadd, 1) := by decide +kernel
set_option maxRecDepth 20000 in
theorem dX6_filesFault_86 : decode cX6_filesFault 86 = .ok (.aload 5, 2) := by decide +kernel
set_option maxRecDepth 20000 in
theorem dX6_filesFault_88 : decode cX6_filesFault 88 = .ok (.getfield 104, 3) := by decide +kernel
set_option maxRecDepth 20000 in
theorem dX6_filesFault_91 : decode cX6_filesFault 91 = .ok (.if_icmp .le 5, 3) := by decide +kernel
set_option maxRecDepth 20000 in
theorem dX6_filesFault_94 : decode cX6_filesFault 94 = .ok (.iconst 2, 1) := by decide +kernel
set_option maxRecDepth 20000 in
theorem dX6_filesFault_95 : decode cX6_filesFault 95 = .ok (.ireturn, 1) := by decide +kernel
set_option maxRecDepth 20000 in
theorem dX6_filesFault_96 : decode cX6_filesFault 96 = .ok (.iload_n 3, 1) := by decide +kernel
set_option maxRecDepth 20000 in
theorem dX6_filesFault_97 : decode cX6_filesFault 97 = .ok (.bipush 7, 2) := by decide +kernel
set_option maxRecDepth 20000 in
theorem dX6_filesFault_99 : decode cX6_filesFault 99 = .ok (.iload_n 2, 1) := by decide +kernel
set_option maxRecDepth 20000 in
theorem dX6_filesFault_100 : decode cX6_filesFault 100 = .ok (.iload 6, 2) := by decide +kernel
set_option maxRecDepth 20000 in
theorem dX6_filesFault_102 : decode cX6_filesFault 102 = .ok (.imul, 1) := by decide +kernel
set_option maxRecDepth 20000 in
theorem dX6_filesFault_103 : decode cX6_filesFault 103 = .ok (.iadd, 1) := by decide +kernel
set_option maxRecDepth 20000 in
theorem dX6_filesFault_104 : decode cX6_filesFault 104 = .ok (.iadd, 1) := by decide +kernel
set_option maxRecDepth 20000 in
theorem dX6_filesFault_105 : decode cX6_filesFault 105 = .ok (.istore_n 3, 1) := by decide +kernel
set_option maxRecDepth 20000 in
theorem dX6_filesFault_106 : decode cX6_filesFault 106 = .ok (.iinc 4 1, 3) := by decide +kernel
set_option maxRecDepth 20000 in
theorem dX6_filesFault_109 : decode cX6_filesFault 109 = .ok (.goto (-88), 3) := by decide +kernel
set_option maxRecDepth 20000 in
theorem dX6_filesFault_112 : decode cX6_filesFault 112 = .ok (.iconst 0, 1) := by decide +kernel
set_option maxRecDepth 20000 in
theorem dX6_filesFault_113 : decode cX6_filesFault 113 = .ok (.ireturn, 1) := by decide +kernel
set_option maxRecDepth 20000 in
theorem dX6_maskFault_0 : decode cX6_maskFault 0 = .ok (.aload_n 1, 1) := by decide +kernel
set_option maxRecDepth 20000 in
theorem dX6_maskFault_1 : decode cX6_maskFault 1 = .ok (.iconst 1, 1) := by decide +kernel
set_option maxRecDepth 20000 in
theorem dX6_maskFault_2 : decode cX6_maskFault 2 = .ok (.invokevirtual 54, 3) := by decide +kernel
set_option maxRecDepth 20000 in
theorem dX6_maskFault_5 : decode cX6_maskFault 5 = .ok (.istore_n 2, 1) := by decide +kernel
set_option maxRecDepth 20000 in
theorem dX6_maskFault_6 : decode cX6_maskFault 6 = .ok (.aload_n 0, 1) := by decide +kernel
set_option maxRecDepth 20000 in
theorem dX6_maskFault_7 : decode cX6_maskFault 7 = .ok (.getfield 70, 3) := by decide +kernel
set_option maxRecDepth 20000 in
theorem dX6_maskFault_10 : decode cX6_maskFault 10 = .ok (.iload_n 2, 1) := by decide +kernel
set_option maxRecDepth 20000 in
theorem dX6_maskFault_11 : decode cX6_maskFault 11 = .ok (.iconst 1, 1) := by decide +kernel
set_option maxRecDepth 20000 in
theorem dX6_maskFault_12 : decode cX6_maskFault 12 = .ok (.invokevirtual 61, 3) := by decide +kernel
set_option maxRecDepth 20000 in
theorem dX6_maskFault_15 : decode cX6_maskFault 15 = .ok (.ifCond .ne 5, 3) := by decide +kernel
set_option maxRecDepth 20000 in
theorem dX6_maskFault_18 : decode cX6_maskFault 18 = .ok (.iconst 2, 1) := by decide +kernel
set_option maxRecDepth 20000 in
theorem dX6_maskFault_19 : decode cX6_maskFault 19 = .ok (.ireturn, 1) := by decide +kernel
set_option maxRecDepth 20000 in
theorem dX6_maskFault_20 : decode cX6_maskFault 20 = .ok (.aload_n 0, 1) := by decide +kernel
set_option maxRecDepth 20000 in
theorem dX6_maskFault_21 : decode cX6_maskFault 21 = .ok (.getfield 70, 3) := by decide +kernel
set_option maxRecDepth 20000 in
theorem dX6_maskFault_24 : decode cX6_maskFault 24 = .ok (.iload_n 2, 1) := by decide +kernel
set_option maxRecDepth 20000 in
theorem dX6_maskFault_25 : decode cX6_maskFault 25 = .ok (.invokevirtual 110, 3) := by decide +kernel
set_option maxRecDepth 20000 in
theorem dX6_maskFault_28 : decode cX6_maskFault 28 = .ok (.aload_n 1, 1) := by decide +kernel
set_option maxRecDepth 20000 in
theorem dX6_maskFault_29 : decode cX6_maskFault 29 = .ok (.iconst 3, 1) := by decide +kernel
set_option maxRecDepth 20000 in
theorem dX6_maskFault_30 : decode cX6_maskFault 30 = .ok (.invokevirtual 54, 3) := by decide +kernel
set_option maxRecDepth 20000 in
theorem dX6_maskFault_33 : decode cX6_maskFault 33 = .ok (.aload_n 1, 1) := by decide +kernel
set_option maxRecDepth 20000 in
theorem dX6_maskFault_34 : decode cX6_maskFault 34 = .ok (.iconst 5, 1) := by decide +kernel
set_option maxRecDepth 20000 in
theorem dX6_maskFault_35 : decode cX6_maskFault 35 = .ok (.invokevirtual 54, 3) := by decide +kernel
set_option maxRecDepth 20000 in
theorem dX6_maskFault_38 : decode cX6_maskFault 38 = .ok (.invokestatic 113, 3) := by decide +kernel
set_option maxRecDepth 20000 in
theorem dX6_maskFault_41 : decode cX6_maskFault 41 = .ok (.istore_n 3, 1) := by decide +kernel
set_option maxRecDepth 20000 in
theorem dX6_maskFault_42 : decode cX6_maskFault 42 = .ok (.aload_n 0, 1) := by decide +kernel
set_option maxRecDepth 20000 in
theorem dX6_maskFault_43 : decode cX6_maskFault 43 = .ok (.iload_n 2, 1) := by decide +kernel
set_option maxRecDepth 20000 in
theorem dX6_maskFault_44 : decode cX6_maskFault 44 = .ok (.iload_n 3, 1) := by decide +kernel
set_option maxRecDepth 20000 in
theorem dX6_maskFault_45 : decode cX6_maskFault 45 = .ok (.invokevirtual 117, 3) := by decide +kernel
set_option maxRecDepth 20000 in
theorem dX6_maskFault_48 : decode cX6_maskFault 48 = .ok (.ifCond .eq 7, 3) := by decide +kernel
set_option maxRecDepth 20000 in
theorem dX6_maskFault_51 : decode cX6_maskFault 51 = .ok (.iconst 0, 1) := by decide +kernel
set_option maxRecDepth 20000 in
theorem dX6_maskFault_52 : decode cX6_maskFault 52 = .ok (.goto 4, 3) := by decide +kernel
set_option maxRecDepth 20000 in
theorem dX6_maskFault_55 : decode cX6_maskFault 55 = .ok (.iconst 3, 1) := by decide +kernel
set_option maxRecDepth 20000 in
theorem dX6_maskFault_56 : decode cX6_maskFault 56 = .ok (.ireturn, 1) := by decide +kernel
set_option maxRecDepth 20000 in
theorem dX6_masked_0 : decode cX6_masked 0 = .ok (.iload_n 0, 1) := by decide +kernel
set_option maxRecDepth 20000 in
theorem dX6_masked_1 : decode cX6_masked 1 = .ok (.iload_n 1, 1) := by decide +kernel
set_option maxRecDepth 20000 in
theorem dX6_masked_2 : decode cX6_masked 2 = .ok (.iand, 1) := by decide +kernel
set_option maxRecDepth 20000 in
theorem dX6_masked_3 : decode cX6_masked 3 = .ok (.iload_n 2, 1) := by decide +kernel
set_option maxRecDepth 20000 in
theorem dX6_masked_4 : decode cX6_masked 4 = .ok (.iload_n 1, 1) := by decide +kernel
set_option maxRecDepth 20000 in
theorem dX6_masked_5 : decode cX6_masked 5 = .ok (.iconst (-1), 1) := by decide +kernel
set_option maxRecDepth 20000 in
theorem dX6_masked_6 : decode cX6_masked 6 = .ok (.ixor, 1) := by decide +kernel
set_option maxRecDepth 20000 in
theorem dX6_masked_7 : decode cX6_masked 7 = .ok (.iand, 1) := by decide +kernel
set_option maxRecDepth 20000 in
theorem dX6_masked_8 : decode cX6_masked 8 = .ok (.ior, 1) := by decide +kernel
set_option maxRecDepth 20000 in
theorem dX6_masked_9 : decode cX6_masked 9 = .ok (.ireturn, 1) := by decide +kernel
set_option maxRecDepth 20000 in
theorem dX6_queueFault_0 : decode cX6_queueFault 0 = .ok (.aload_n 0, 1) := by decide +kernel
set_option maxRecDepth 20000 in
theorem dX6_queueFault_1 : decode cX6_queueFault 1 = .ok (.getfield 120, 3) := by decide +kernel
set_option maxRecDepth 20000 in
theorem dX6_queueFault_4 : decode cX6_queueFault 4 = .ok (.iload_n 1, 1) := by decide +kernel
set_option maxRecDepth 20000 in
theorem dX6_queueFault_5 : decode cX6_queueFault 5 = .ok (.invokevirtual 98, 3) := by decide +kernel
set_option maxRecDepth 20000 in
theorem dX6_queueFault_8 : decode cX6_queueFault 8 = .ok (.astore_n 2, 1) := by decide +kernel
set_option maxRecDepth 20000 in
theorem dX6_queueFault_9 : decode cX6_queueFault 9 = .ok (.aload_n 2, 1) := by decide +kernel
set_option maxRecDepth 20000 in
theorem dX6_queueFault_10 : decode cX6_queueFault 10 = .ok (.ifnonnull 5, 3) := by decide +kernel
set_option maxRecDepth 20000 in
theorem dX6_queueFault_13 : decode cX6_queueFault 13 = .ok (.iconst 2, 1) := by decide +kernel
set_option maxRecDepth 20000 in
theorem dX6_queueFault_14 : decode cX6_queueFault 14 = .ok (.ireturn, 1) := by decide +kernel
set_option maxRecDepth 20000 in
theorem dX6_queueFault_15 : decode cX6_queueFault 15 = .ok (.aload_n 2, 1) := by decide +kernel
set_option maxRecDepth 20000 in
theorem dX6_queueFault_16 : decode cX6_queueFault 16 = .ok (.getfield 104, 3) := by decide +kernel
set_option maxRecDepth 20000 in
theorem dX6_queueFault_19 : decode cX6_queueFault 19 = .ok (.bipush 31, 2) := by decide +kernel
set_option maxRecDepth 20000 in
theorem dX6_queueFault_21 : decode cX6_queueFault 21 = .ok (.if_icmp .le 7, 3) := by decide +kernel
set_option maxRecDepth 20000 in
theorem dX6_queueFault_24 : decode cX6_queueFault 24 = .ok (.iconst 3, 1) := by decide +kernel
set_option maxRecDepth 20000 in
theorem dX6_queueFault_25 : decode cX6_queueFault 25 = .ok (.goto 4, 3) := by decide +kernel
set_option maxRecDepth 20000 in
theorem dX6_queueFault_28 : decode cX6_queueFault 28 = .ok (.iconst 0, 1) := by decide +kernel
set_option maxRecDepth 20000 in
theorem dX6_queueFault_29 : decode cX6_queueFault 29 = .ok (.ireturn, 1) := by decide +kernel
set_option maxRecDepth 20000 in
theorem dX6_perform_0 : decode cX6_perform 0 = .ok (.aload_n 1, 1) := by decide +kernel
set_option maxRecDepth 20000 in
theorem dX6_perform_1 : decode cX6_perform 1 = .ok (.iconst 1, 1) := by decide +kernel
set_option maxRecDepth 20000 in
theorem dX6_perform_2 : decode cX6_perform 2 = .ok (.invokevirtual 54, 3) := by decide +kernel
set_option maxRecDepth 20000 in
theorem dX6_perform_5 : decode cX6_perform 5 = .ok (.istore_n 3, 1) := by decide +kernel
set_option maxRecDepth 20000 in
theorem dX6_perform_6 : decode cX6_perform 6 = .ok (.aload_n 1, 1) := by decide +kernel
set_option maxRecDepth 20000 in
theorem dX6_perform_7 : decode cX6_perform 7 = .ok (.iconst 0, 1) := by decide +kernel
set_option maxRecDepth 20000 in
theorem dX6_perform_8 : decode cX6_perform 8 = .ok (.invokevirtual 36, 3) := by decide +kernel
set_option maxRecDepth 20000 in
theorem dX6_perform_11 : decode cX6_perform 11 = .ok (.tableswitch 361 1 23 #[105, 117, 129, 141, 153, 189, 361, 215, 361, 361, 361, 361, 361, 361, 224, 242, 361, 361, 361, 361, 268, 286, 328], 105) := by decide +kernel
set_option maxRecDepth 20000 in
theorem dX6_perform_116 : decode cX6_perform 116 = .ok (.aload_n 0, 1) := by decide +kernel
set_option maxRecDepth 20000 in
theorem dX6_perform_117 : decode cX6_perform 117 = .ok (.getfield 57, 3) := by decide +kernel
set_option maxRecDepth 20000 in
theorem dX6_perform_120 : decode cX6_perform 120 = .ok (.aload_n 1, 1) := by decide +kernel
set_option maxRecDepth 20000 in
theorem dX6_perform_121 : decode cX6_perform 121 = .ok (.aload_n 2, 1) := by decide +kernel
set_option maxRecDepth 20000 in
theorem dX6_perform_122 : decode cX6_perform 122 = .ok (.invokestatic 123, 3) := by decide +kernel
set_option maxRecDepth 20000 in
theorem dX6_perform_125 : decode cX6_perform 125 = .ok (.goto 247, 3) := by decide +kernel
set_option maxRecDepth 20000 in
theorem dX6_perform_128 : decode cX6_perform 128 = .ok (.aload_n 0, 1) := by decide +kernel
set_option maxRecDepth 20000 in
theorem dX6_perform_129 : decode cX6_perform 129 = .ok (.getfield 67, 3) := by decide +kernel
set_option maxRecDepth 20000 in
theorem dX6_perform_132 : decode cX6_perform 132 = .ok (.aload_n 1, 1) := by decide +kernel
set_option maxRecDepth 20000 in
theorem dX6_perform_133 : decode cX6_perform 133 = .ok (.aload_n 2, 1) := by decide +kernel
set_option maxRecDepth 20000 in
theorem dX6_perform_134 : decode cX6_perform 134 = .ok (.invokestatic 123, 3) := by decide +kernel
set_option maxRecDepth 20000 in
theorem dX6_perform_137 : decode cX6_perform 137 = .ok (.goto 235, 3) := by decide +kernel
set_option maxRecDepth 20000 in
theorem dX6_perform_140 : decode cX6_perform 140 = .ok (.aload_n 0, 1) := by decide +kernel
set_option maxRecDepth 20000 in
theorem dX6_perform_141 : decode cX6_perform 141 = .ok (.getfield 70, 3) := by decide +kernel
set_option maxRecDepth 20000 in
theorem dX6_perform_144 : decode cX6_perform 144 = .ok (.aload_n 1, 1) := by decide +kernel
set_option maxRecDepth 20000 in
theorem dX6_perform_145 : decode cX6_perform 145 = .ok (.aload_n 2, 1) := by decide +kernel
set_option maxRecDepth 20000 in
theorem dX6_perform_146 : decode cX6_perform 146 = .ok (.invokestatic 127, 3) := by decide +kernel
set_option maxRecDepth 20000 in
theorem dX6_perform_149 : decode cX6_perform 149 = .ok (.goto 223, 3) := by decide +kernel
set_option maxRecDepth 20000 in
theorem dX6_perform_152 : decode cX6_perform 152 = .ok (.aload_n 0, 1) := by decide +kernel
set_option maxRecDepth 20000 in
theorem dX6_perform_153 : decode cX6_perform 153 = .ok (.getfield 73, 3) := by decide +kernel
set_option maxRecDepth 20000 in
theorem dX6_perform_156 : decode cX6_perform 156 = .ok (.aload_n 1, 1) := by decide +kernel
set_option maxRecDepth 20000 in
theorem dX6_perform_157 : decode cX6_perform 157 = .ok (.aload_n 2, 1) := by decide +kernel
set_option maxRecDepth 20000 in
theorem dX6_perform_158 : decode cX6_perform 158 = .ok (.invokestatic 127, 3) := by decide +kernel
set_option maxRecDepth 20000 in
theorem dX6_perform_161 : decode cX6_perform 161 = .ok (.goto 211, 3) := by decide +kernel
set_option maxRecDepth 20000 in
theorem dX6_perform_164 : decode cX6_perform 164 = .ok (.aload_n 0, 1) := by decide +kernel
set_option maxRecDepth 20000 in
theorem dX6_perform_165 : decode cX6_perform 165 = .ok (.getfield 57, 3) := by decide +kernel
set_option maxRecDepth 20000 in
theorem dX6_perform_168 : decode cX6_perform 168 = .ok (.iload_n 3, 1) := by decide +kernel
set_option maxRecDepth 20000 in
theorem dX6_perform_169 : decode cX6_perform 169 = .ok (.aload_n 1, 1) := by decide +kernel
set_option maxRecDepth 20000 in
theorem dX6_perform_170 : decode cX6_perform 170 = .ok (.iconst 3, 1) := by decide +kernel
set_option maxRecDepth 20000 in
theorem dX6_perform_171 : decode cX6_perform 171 = .ok (.invokevirtual 54, 3) := by decide +kernel
set_option maxRecDepth 20000 in
theorem dX6_perform_174 : decode cX6_perform 174 = .ok (.ldc 76, 2) := by decide +kernel
set_option maxRecDepth 20000 in
theorem dX6_perform_176 : decode cX6_perform 176 = .ok (.if_icmp .ne 7, 3) := by decide +kernel
set_option maxRecDepth 20000 in
theorem dX6_perform_179 : decode cX6_perform 179 = .ok (.iconst 1, 1) := by decide +kernel
set_option maxRecDepth 20000 in
theorem dX6_perform_180 : decode cX6_perform 180 = .ok (.goto 4, 3) := by decide +kernel
set_option maxRecDepth 20000 in
theorem dX6_perform_183 : decode cX6_perform 183 = .ok (.iconst 0, 1) := by decide +kernel
set_option maxRecDepth 20000 in
theorem dX6_perform_184 : decode cX6_perform 184 = .ok (.invokevirtual 130, 3) := by decide +kernel
set_option maxRecDepth 20000 in
theorem dX6_perform_187 : decode cX6_perform 187 = .ok (.aload_n 2, 1) := by decide +kernel
set_option maxRecDepth 20000 in
theorem dX6_perform_188 : decode cX6_perform 188 = .ok (.aload_n 1, 1) := by decide +kernel
set_option maxRecDepth 20000 in
theorem dX6_perform_189 : decode cX6_perform 189 = .ok (.iconst 0, 1) := by decide +kernel
set_option maxRecDepth 20000 in
theorem dX6_perform_190 : decode cX6_perform 190 = .ok (.aload_n 1, 1) := by decide +kernel
set_option maxRecDepth 20000 in
theorem dX6_perform_191 : decode cX6_perform 191 = .ok (.getfield 104, 3) := by decide +kernel
set_option maxRecDepth 20000 in
theorem dX6_perform_194 : decode cX6_perform 194 = .ok (.invokevirtual 134, 3) := by decide +kernel
set_option maxRecDepth 20000 in
theorem dX6_perform_197 : decode cX6_perform 197 = .ok (.goto 175, 3) := by decide +kernel
set_option maxRecDepth 20000 in
theorem dX6_perform_200 : decode cX6_perform 200 = .ok (.aload_n 0, 1) := by decide +kernel
set_option maxRecDepth 20000 in
theorem dX6_perform_201 : decode cX6_perform 201 = .ok (.getfield 70, 3) := by decide +kernel
set_option maxRecDepth 20000 in
theorem dX6_perform_204 : decode cX6_perform 204 = .ok (.iload_n 3, 1) := by decide +kernel
set_option maxRecDepth 20000 in
theorem dX6_perform_205 : decode cX6_perform 205 = .ok (.aload_n 1, 1) := by decide +kernel
set_option maxRecDepth 20000 in
theorem dX6_perform_206 : decode cX6_perform 206 = .ok (.iconst 3, 1) := by decide +kernel
set_option maxRecDepth 20000 in
theorem dX6_perform_207 : decode cX6_perform 207 = .ok (.invokevirtual 54, 3) := by decide +kernel
set_option maxRecDepth 20000 in
theorem dX6_perform_210 : decode cX6_perform 210 = .ok (.invokevirtual 130, 3) := by decide +kernel
set_option maxRecDepth 20000 in
theorem dX6_perform_213 : decode cX6_perform 213 = .ok (.aload_n 2, 1) := by decide +kernel
set_option maxRecDepth 20000 in
theorem dX6_perform_214 : decode cX6_perform 214 = .ok (.aload_n 1, 1) := by decide +kernel
set_option maxRecDepth 20000 in
theorem dX6_perform_215 : decode cX6_perform 215 = .ok (.iconst 0, 1) := by decide +kernel
set_option maxRecDepth 20000 in
theorem dX6_perform_216 : decode cX6_perform 216 = .ok (.aload_n 1, 1) := by decide +kernel
set_option maxRecDepth 20000 in
theorem dX6_perform_217 : decode cX6_perform 217 = .ok (.getfield 104, 3) := by decide +kernel
set_option maxRecDepth 20000 in
theorem dX6_perform_220 : decode cX6_perform 220 = .ok (.invokevirtual 134, 3) := by decide +kernel
set_option maxRecDepth 20000 in
theorem dX6_perform_223 : decode cX6_perform 223 = .ok (.goto 149, 3) := by decide +kernel
set_option maxRecDepth 20000 in
theorem dX6_perform_226 : decode cX6_perform 226 = .ok (.aload_n 0, 1) := by decide +kernel
set_option maxRecDepth 20000 in
theorem dX6_perform_227 : decode cX6_perform 227 = .ok (.aload_n 1, 1) := by decide +kernel
set_option maxRecDepth 20000 in
theorem dX6_perform_228 : decode cX6_perform 228 = .ok (.aload_n 2, 1) := by decide +kernel
set_option maxRecDepth 20000 in
theorem dX6_perform_229 : decode cX6_perform 229 = .ok (.invokestatic 138, 3) := by decide +kernel
set_option maxRecDepth 20000 in
theorem dX6_perform_232 : decode cX6_perform 232 = .ok (.goto 140, 3) := by decide +kernel
set_option maxRecDepth 20000 in
theorem dX6_perform_235 : decode cX6_perform 235 = .ok (.aload_n 0, 1) := by decide +kernel
set_option maxRecDepth 20000 in
theorem dX6_perform_236 : decode cX6_perform 236 = .ok (.getfield 57, 3) := by decide +kernel
set_option maxRecDepth 20000 in
theorem dX6_perform_239 : decode cX6_perform 239 = .ok (.aload_n 1, 1) := by decide +kernel
set_option maxRecDepth 20000 in
theorem dX6_perform_240 : decode cX6_perform 240 = .ok (.invokestatic 141, 3) := by decide +kernel
set_option maxRecDepth 20000 in
theorem dX6_perform_243 : decode cX6_perform 243 = .ok (.aload_n 2, 1) := by decide +kernel
set_option maxRecDepth 20000 in
theorem dX6_perform_244 : decode cX6_perform 244 = .ok (.aload_n 1, 1) := by decide +kernel
set_option maxRecDepth 20000 in
theorem dX6_perform_245 : decode cX6_perform 245 = .ok (.iconst 0, 1) := by decide +kernel
set_option maxRecDepth 20000 in
theorem dX6_perform_246 : decode cX6_perform 246 = .ok (.iconst 5, 1) := by decide +kernel
set_option maxRecDepth 20000 in
theorem dX6_perform_247 : decode cX6_perform 247 = .ok (.invokevirtual 134, 3) := by decide +kernel
set_option maxRecDepth 20000 in
theorem dX6_perform_250 : decode cX6_perform 250 = .ok (.goto 122, 3) := by decide +kernel
set_option maxRecDepth 20000 in
theorem dX6_perform_253 : decode cX6_perform 253 = .ok (.aload_n 0, 1) := by decide +kernel
set_option maxRecDepth 20000 in
theorem dX6_perform_254 : decode cX6_perform 254 = .ok (.getfield 70, 3) := by decide +kernel
set_option maxRecDepth 20000 in
theorem dX6_perform_257 : decode cX6_perform 257 = .ok (.iload_n 3, 1) := by decide +kernel
set_option maxRecDepth 20000 in
theorem dX6_perform_258 : decode cX6_perform 258 = .ok (.aload_n 1, 1) := by decide +kernel
set_option maxRecDepth 20000 in
theorem dX6_perform_259 : decode cX6_perform 259 = .ok (.iconst 3, 1) := by decide +kernel
set_option maxRecDepth 20000 in
theorem dX6_perform_260 : decode cX6_perform 260 = .ok (.invokevirtual 54, 3) := by decide +kernel
set_option maxRecDepth 20000 in
theorem dX6_perform_263 : decode cX6_perform 263 = .ok (.aload_n 1, 1) := by decide +kernel
set_option maxRecDepth 20000 in
theorem dX6_perform_264 : decode cX6_perform 264 = .ok (.bipush 6, 2) := by decide +kernel
set_option maxRecDepth 20000 in
theorem dX6_perform_266 : decode cX6_perform 266 = .ok (.invokestatic 145, 3) := by decide +kernel
set_option maxRecDepth 20000 in
theorem dX6_perform_269 : decode cX6_perform 269 = .ok (.aload_n 2, 1) := by decide +kernel
set_option maxRecDepth 20000 in
theorem dX6_perform_270 : decode cX6_perform 270 = .ok (.aload_n 1, 1) := by decide +kernel
set_option maxRecDepth 20000 in
theorem dX6_perform_271 : decode cX6_perform 271 = .ok (.iconst 0, 1) := by decide +kernel
set_option maxRecDepth 20000 in
theorem dX6_perform_272 : decode cX6_perform 272 = .ok (.iconst 5, 1) := by decide +kernel
set_option maxRecDepth 20000 in
theorem dX6_perform_273 : decode cX6_perform 273 = .ok (.invokevirtual 134, 3) := by decide +kernel
set_option maxRecDepth 20000 in
theorem dX6_perform_276 : decode cX6_perform 276 = .ok (.goto 96, 3) := by decide +kernel
set_option maxRecDepth 20000 in
theorem dX6_perform_279 : decode cX6_perform 279 = .ok (.aload_n 0, 1) := by decide +kernel
set_option maxRecDepth 20000 in
theorem dX6_perform_280 : decode cX6_perform 280 = .ok (.aload_n 1, 1) := by decide +kernel
set_option maxRecDepth 20000 in
theorem dX6_perform_281 : decode cX6_perform 281 = .ok (.invokestatic 149, 3) := by decide +kernel
set_option maxRecDepth 20000 in
theorem dX6_perform_284 : decode cX6_perform 284 = .ok (.aload_n 2, 1) := by decide +kernel
set_option maxRecDepth 20000 in
theorem dX6_perform_285 : decode cX6_perform 285 = .ok (.aload_n 1, 1) := by decide +kernel
set_option maxRecDepth 20000 in
theorem dX6_perform_286 : decode cX6_perform 286 = .ok (.iconst 0, 1) := by decide +kernel
set_option maxRecDepth 20000 in
theorem dX6_perform_287 : decode cX6_perform 287 = .ok (.aload_n 1, 1) := by decide +kernel
set_option maxRecDepth 20000 in
theorem dX6_perform_288 : decode cX6_perform 288 = .ok (.getfield 104, 3) := by decide +kernel
set_option maxRecDepth 20000 in
theorem dX6_perform_291 : decode cX6_perform 291 = .ok (.invokevirtual 134, 3) := by decide +kernel
set_option maxRecDepth 20000 in
theorem dX6_perform_294 : decode cX6_perform 294 = .ok (.goto 78, 3) := by decide +kernel
set_option maxRecDepth 20000 in
theorem dX6_perform_297 : decode cX6_perform 297 = .ok (.aload_n 0, 1) := by decide +kernel
set_option maxRecDepth 20000 in
theorem dX6_perform_298 : decode cX6_perform 298 = .ok (.getfield 70, 3) := by decide +kernel
set_option maxRecDepth 20000 in
theorem dX6_perform_301 : decode cX6_perform 301 = .ok (.iload_n 3, 1) := by decide +kernel
set_option maxRecDepth 20000 in
theorem dX6_perform_302 : decode cX6_perform 302 = .ok (.aload_n 0, 1) := by decide +kernel
set_option maxRecDepth 20000 in
theorem dX6_perform_303 : decode cX6_perform 303 = .ok (.getfield 70, 3) := by decide +kernel
set_option maxRecDepth 20000 in
theorem dX6_perform_306 : decode cX6_perform 306 = .ok (.iload_n 3, 1) := by decide +kernel
set_option maxRecDepth 20000 in
theorem dX6_perform_307 : decode cX6_perform 307 = .ok (.invokevirtual 110, 3) := by decide +kernel
set_option maxRecDepth 20000 in
theorem dX6_perform_310 : decode cX6_perform 310 = .ok (.aload_n 1, 1) := by decide +kernel
set_option maxRecDepth 20000 in
theorem dX6_perform_311 : decode cX6_perform 311 = .ok (.iconst 3, 1) := by decide +kernel
set_option maxRecDepth 20000 in
theorem dX6_perform_312 : decode cX6_perform 312 = .ok (.invokevirtual 54, 3) := by decide +kernel
set_option maxRecDepth 20000 in
theorem dX6_perform_315 : decode cX6_perform 315 = .ok (.aload_n 1, 1) := by decide +kernel
set_option maxRecDepth 20000 in
theorem dX6_perform_316 : decode cX6_perform 316 = .ok (.iconst 5, 1) := by decide +kernel
set_option maxRecDepth 20000 in
theorem dX6_perform_317 : decode cX6_perform 317 = .ok (.invokevirtual 54, 3) := by decide +kernel
set_option maxRecDepth 20000 in
theorem dX6_perform_320 : decode cX6_perform 320 = .ok (.invokestatic 113, 3) := by decide +kernel
set_option maxRecDepth 20000 in
theorem dX6_perform_323 : decode cX6_perform 323 = .ok (.invokevirtual 130, 3) := by decide +kernel
set_option maxRecDepth 20000 in
theorem dX6_perform_326 : decode cX6_perform 326 = .ok (.aload_n 2, 1) := by decide +kernel
set_option maxRecDepth 20000 in
theorem dX6_perform_327 : decode cX6_perform 327 = .ok (.aload_n 1, 1) := by decide +kernel
set_option maxRecDepth 20000 in
theorem dX6_perform_328 : decode cX6_perform 328 = .ok (.iconst 0, 1) := by decide +kernel
set_option maxRecDepth 20000 in
theorem dX6_perform_329 : decode cX6_perform 329 = .ok (.aload_n 1, 1) := by decide +kernel
set_option maxRecDepth 20000 in
theorem dX6_perform_330 : decode cX6_perform 330 = .ok (.getfield 104, 3) := by decide +kernel
set_option maxRecDepth 20000 in
theorem dX6_perform_333 : decode cX6_perform 333 = .ok (.invokevirtual 134, 3) := by decide +kernel
set_option maxRecDepth 20000 in
theorem dX6_perform_336 : decode cX6_perform 336 = .ok (.goto 36, 3) := by decide +kernel
set_option maxRecDepth 20000 in
theorem dX6_perform_339 : decode cX6_perform 339 = .ok (.aload_n 0, 1) := by decide +kernel
set_option maxRecDepth 20000 in
theorem dX6_perform_340 : decode cX6_perform 340 = .ok (.getfield 70, 3) := by decide +kernel
set_option maxRecDepth 20000 in
theorem dX6_perform_343 : decode cX6_perform 343 = .ok (.aload_n 1, 1) := by decide +kernel
set_option maxRecDepth 20000 in
theorem dX6_perform_344 : decode cX6_perform 344 = .ok (.iconst 5, 1) := by decide +kernel
set_option maxRecDepth 20000 in
theorem dX6_perform_345 : decode cX6_perform 345 = .ok (.invokevirtual 54, 3) := by decide +kernel
set_option maxRecDepth 20000 in
theorem dX6_perform_348 : decode cX6_perform 348 = .ok (.aload_n 1, 1) := by decide +kernel
set_option maxRecDepth 20000 in
theorem dX6_perform_349 : decode cX6_perform 349 = .ok (.bipush 7, 2) := by decide +kernel
set_option maxRecDepth 20000 in
theorem dX6_perform_351 : decode cX6_perform 351 = .ok (.invokevirtual 54, 3) := by decide +kernel
set_option maxRecDepth 20000 in
theorem dX6_perform_354 : decode cX6_perform 354 = .ok (.aload_n 1, 1) := by decide +kernel
set_option maxRecDepth 20000 in
theorem dX6_perform_355 : decode cX6_perform 355 = .ok (.bipush 10, 2) := by decide +kernel
set_option maxRecDepth 20000 in
theorem dX6_perform_357 : decode cX6_perform 357 = .ok (.invokestatic 145, 3) := by decide +kernel
set_option maxRecDepth 20000 in
theorem dX6_perform_360 : decode cX6_perform 360 = .ok (.aload_n 0, 1) := by decide +kernel
set_option maxRecDepth 20000 in
theorem dX6_perform_361 : decode cX6_perform 361 = .ok (.getfield 70, 3) := by decide +kernel
set_option maxRecDepth 20000 in
theorem dX6_perform_364 : decode cX6_perform 364 = .ok (.aload_n 1, 1) := by decide +kernel
set_option maxRecDepth 20000 in
theorem dX6_perform_365 : decode cX6_perform 365 = .ok (.aload_n 2, 1) := by decide +kernel
set_option maxRecDepth 20000 in
theorem dX6_perform_366 : decode cX6_perform 366 = .ok (.invokestatic 127, 3) := by decide +kernel
set_option maxRecDepth 20000 in
theorem dX6_perform_369 : decode cX6_perform 369 = .ok (.goto 3, 3) := by decide +kernel
set_option maxRecDepth 20000 in
theorem dX6_perform_372 : decode cX6_perform 372 = .ok (.return_, 1) := by decide +kernel
set_option maxRecDepth 20000 in
theorem dX6_isTelling_0 : decode cX6_isTelling 0 = .ok (.iload_n 0, 1) := by decide +kernel
set_option maxRecDepth 20000 in
theorem dX6_isTelling_1 : decode cX6_isTelling 1 = .ok (.bipush 7, 2) := by decide +kernel
set_option maxRecDepth 20000 in
theorem dX6_isTelling_3 : decode cX6_isTelling 3 = .ok (.if_icmp .eq 39, 3) := by decide +kernel
set_option maxRecDepth 20000 in
theorem dX6_isTelling_6 : decode cX6_isTelling 6 = .ok (.iload_n 0, 1) := by decide +kernel
set_option maxRecDepth 20000 in
theorem dX6_isTelling_7 : decode cX6_isTelling 7 = .ok (.bipush 11, 2) := by decide +kernel
set_option maxRecDepth 20000 in
theorem dX6_isTelling_9 : decode cX6_isTelling 9 = .ok (.if_icmp .eq 33, 3) := by decide +kernel
set_option maxRecDepth 20000 in
theorem dX6_isTelling_12 : decode cX6_isTelling 12 = .ok (.iload_n 0, 1) := by decide +kernel
set_option maxRecDepth 20000 in
theorem dX6_isTelling_13 : decode cX6_isTelling 13 = .ok (.bipush 12, 2) := by decide +kernel
set_option maxRecDepth 20000 in
theorem dX6_isTelling_15 : decode cX6_isTelling 15 = .ok (.if_icmp .eq 27, 3) := by decide +kernel
set_option maxRecDepth 20000 in
theorem dX6_isTelling_18 : decode cX6_isTelling 18 = .ok (.iload_n 0, 1) := by decide +kernel
set_option maxRecDepth 20000 in
theorem dX6_isTelling_19 : decode cX6_isTelling 19 = .ok (.bipush 17, 2) := by decide +kernel
set_option maxRecDepth 20000 in
theorem dX6_isTelling_21 : decode cX6_isTelling 21 = .ok (.if_icmp .eq 21, 3) := by decide +kernel
set_option maxRecDepth 20000 in
theorem dX6_isTelling_24 : decode cX6_isTelling 24 = .ok (.iload_n 0, 1) := by decide +kernel
set_option maxRecDepth 20000 in
theorem dX6_isTelling_25 : decode cX6_isTelling 25 = .ok (.bipush 20, 2) := by decide +kernel
set_option maxRecDepth 20000 in
theorem dX6_isTelling_27 : decode cX6_isTelling 27 = .ok (.if_icmp .eq 15, 3) := by decide +kernel
set_option maxRecDepth 20000 in
theorem dX6_isTelling_30 : decode cX6_isTelling 30 = .ok (.iload_n 0, 1) := by decide +kernel
set_option maxRecDepth 20000 in
theorem dX6_isTelling_31 : decode cX6_isTelling 31 = .ok (.bipush 24, 2) := by decide +kernel
set_option maxRecDepth 20000 in
theorem dX6_isTelling_33 : decode cX6_isTelling 33 = .ok (.if_icmp .eq 9, 3) := by decide +kernel
set_option maxRecDepth 20000 in
theorem dX6_isTelling_36 : decode cX6_isTelling 36 = .ok (.iload_n 0, 1) := by decide +kernel
set_option maxRecDepth 20000 in
theorem dX6_isTelling_37 : decode cX6_isTelling 37 = .ok (.bipush 43, 2) := by decide +kernel
set_option maxRecDepth 20000 in
theorem dX6_isTelling_39 : decode cX6_isTelling 39 = .ok (.if_icmp .ne 7, 3) := by decide +kernel
set_option maxRecDepth 20000 in
theorem dX6_isTelling_42 : decode cX6_isTelling 42 = .ok (.iconst 1, 1) := by decide +kernel
set_option maxRecDepth 20000 in
theorem dX6_isTelling_43 : decode cX6_isTelling 43 = .ok (.goto 4, 3) := by decide +kernel
set_option maxRecDepth 20000 in
theorem dX6_isTelling_46 : decode cX6_isTelling 46 = .ok (.iconst 0, 1) := by decide +kernel
set_option maxRecDepth 20000 in
theorem dX6_isTelling_47 : decode cX6_isTelling 47 = .ok (.ireturn, 1) := by decide +kernel
set_option maxRecDepth 20000 in
theorem dX6_tell_0 : decode cX6_tell 0 = .ok (.aload_n 1, 1) := by decide +kernel
set_option maxRecDepth 20000 in
theorem dX6_tell_1 : decode cX6_tell 1 = .ok (.iconst 0, 1) := by decide +kernel
set_option maxRecDepth 20000 in
theorem dX6_tell_2 : decode cX6_tell 2 = .ok (.invokevirtual 36, 3) := by decide +kernel
set_option maxRecDepth 20000 in
theorem dX6_tell_5 : decode cX6_tell 5 = .ok (.tableswitch 205 7 24 #[87, 205, 205, 205, 116, 140, 205, 205, 205, 205, 148, 205, 205, 177, 205, 205, 205, 186], 87) := by decide +kernel
set_option maxRecDepth 20000 in
theorem dX6_tell_92 : decode cX6_tell 92 = .ok (.aload_n 2, 1) := by decide +kernel
set_option maxRecDepth 20000 in
theorem dX6_tell_93 : decode cX6_tell 93 = .ok (.bipush 7, 2) := by decide +kernel
set_option maxRecDepth 20000 in
theorem dX6_tell_95 : decode cX6_tell 95 = .ok (.invokevirtual 40, 3) := by decide +kernel
set_option maxRecDepth 20000 in
theorem dX6_tell_98 : decode cX6_tell 98 = .ok (.aload_n 2, 1) := by decide +kernel
set_option maxRecDepth 20000 in
theorem dX6_tell_99 : decode cX6_tell 99 = .ok (.aload_n 0, 1) := by decide +kernel
set_option maxRecDepth 20000 in
theorem dX6_tell_100 : decode cX6_tell 100 = .ok (.getfield 57, 3) := by decide +kernel
set_option maxRecDepth 20000 in
theorem dX6_tell_103 : decode cX6_tell 103 = .ok (.aload_n 0, 1) := by decide +kernel
set_option maxRecDepth 20000 in
theorem dX6_tell_104 : decode cX6_tell 104 = .ok (.getfield 57, 3) := by decide +kernel
set_option maxRecDepth 20000 in
theorem dX6_tell_107 : decode cX6_tell 107 = .ok (.getfield 153, 3) := by decide +kernel
set_option maxRecDepth 20000 in
theorem dX6_tell_110 : decode cX6_tell 110 = .ok (.bipush 8, 2) := by decide +kernel
set_option maxRecDepth 20000 in
theorem dX6_tell_112 : decode cX6_tell 112 = .ok (.invokevirtual 156, 3) := by decide +kernel
set_option maxRecDepth 20000 in
theorem dX6_tell_115 : decode cX6_tell 115 = .ok (.invokevirtual 40, 3) := by decide +kernel
set_option maxRecDepth 20000 in
theorem dX6_tell_118 : decode cX6_tell 118 = .ok (.goto 101, 3) := by decide +kernel
set_option maxRecDepth 20000 in
theorem dX6_tell_121 : decode cX6_tell 121 = .ok (.aload_n 2, 1) := by decide +kernel
set_option maxRecDepth 20000 in
theorem dX6_tell_122 : decode cX6_tell 122 = .ok (.bipush 11, 2) := by decide +kernel
set_option maxRecDepth 20000 in
theorem dX6_tell_124 : decode cX6_tell 124 = .ok (.invokevirtual 40, 3) := by decide +kernel
set_option maxRecDepth 20000 in
theorem dX6_tell_127 : decode cX6_tell 127 = .ok (.aload_n 2, 1) := by decide +kernel
set_option maxRecDepth 20000 in
theorem dX6_tell_128 : decode cX6_tell 128 = .ok (.iconst 0, 1) := by decide +kernel
set_option maxRecDepth 20000 in
theorem dX6_tell_129 : decode cX6_tell 129 = .ok (.invokevirtual 160, 3) := by decide +kernel
set_option maxRecDepth 20000 in
theorem dX6_tell_132 : decode cX6_tell 132 = .ok (.aload_n 2, 1) := by decide +kernel
set_option maxRecDepth 20000 in
theorem dX6_tell_133 : decode cX6_tell 133 = .ok (.aload_n 0, 1) := by decide +kernel
set_option maxRecDepth 20000 in
theorem dX6_tell_134 : decode cX6_tell 134 = .ok (.bipush 8, 2) := by decide +kernel
set_option maxRecDepth 20000 in
theorem dX6_tell_136 : decode cX6_tell 136 = .ok (.invokevirtual 163, 3) := by decide +kernel
set_option maxRecDepth 20000 in
theorem dX6_tell_139 : decode cX6_tell 139 = .ok (.invokevirtual 160, 3) := by decide +kernel
set_option maxRecDepth 20000 in
theorem dX6_tell_142 : decode cX6_tell 142 = .ok (.goto 77, 3) := by decide +kernel
set_option maxRecDepth 20000 in
theorem dX6_tell_145 : decode cX6_tell 145 = .ok (.aload_n 0, 1) := by decide +kernel
set_option maxRecDepth 20000 in
theorem dX6_tell_146 : decode cX6_tell 146 = .ok (.aload_n 2, 1) := by decide +kernel
set_option maxRecDepth 20000 in
theorem dX6_tell_147 : decode cX6_tell 147 = .ok (.invokestatic 166, 3) := by decide +kernel
set_option maxRecDepth 20000 in
theorem dX6_tell_150 : decode cX6_tell 150 = .ok (.goto 69, 3) := by decide +kernel
set_option maxRecDepth 20000 in
theorem dX6_tell_153 : decode cX6_tell 153 = .ok (.aload_n 2, 1) := by decide +kernel
set_option maxRecDepth 20000 in
theorem dX6_tell_154 : decode cX6_tell 154 = .ok (.bipush 17, 2) := by decide +kernel
set_option maxRecDepth 20000 in
theorem dX6_tell_156 : decode cX6_tell 156 = .ok (.invokevirtual 40, 3) := by decide +kernel
set_option maxRecDepth 20000 in
theorem dX6_tell_159 : decode cX6_tell 159 = .ok (.aload_n 2, 1) := by decide +kernel
set_option maxRecDepth 20000 in
theorem dX6_tell_160 : decode cX6_tell 160 = .ok (.iconst 2, 1) := by decide +kernel
set_option maxRecDepth 20000 in
theorem dX6_tell_161 : decode cX6_tell 161 = .ok (.invokevirtual 40, 3) := by decide +kernel
set_option maxRecDepth 20000 in
theorem dX6_tell_164 : decode cX6_tell 164 = .ok (.aload_n 2, 1) := by decide +kernel
set_option maxRecDepth 20000 in
theorem dX6_tell_165 : decode cX6_tell 165 = .ok (.aload_n 0, 1) := by decide +kernel
set_option maxRecDepth 20000 in
theorem dX6_tell_166 : decode cX6_tell 166 = .ok (.getfield 169, 3) := by decide +kernel
set_option maxRecDepth 20000 in
theorem dX6_tell_169 : decode cX6_tell 169 = .ok (.invokevirtual 40, 3) := by decide +kernel
set_option maxRecDepth 20000 in
theorem dX6_tell_172 : decode cX6_tell 172 = .ok (.aload_n 2, 1) := by decide +kernel
set_option maxRecDepth 20000 in
theorem dX6_tell_173 : decode cX6_tell 173 = .ok (.sipush 255, 3) := by decide +kernel
set_option maxRecDepth 20000 in
theorem dX6_tell_176 : decode cX6_tell 176 = .ok (.invokevirtual 40, 3) := by decide +kernel
set_option maxRecDepth 20000 in
theorem dX6_tell_179 : decode cX6_tell 179 = .ok (.goto 40, 3) := by decide +kernel
set_option maxRecDepth 20000 in
theorem dX6_tell_182 : decode cX6_tell 182 = .ok (.aload_n 0, 1) := by decide +kernel
set_option maxRecDepth 20000 in
theorem dX6_tell_183 : decode cX6_tell 183 = .ok (.aload_n 1, 1) := by decide +kernel
set_option maxRecDepth 20000 in
theorem dX6_tell_184 : decode cX6_tell 184 = .ok (.aload_n 2, 1) := by decide +kernel
set_option maxRecDepth 20000 in
theorem dX6_tell_185 : decode cX6_tell 185 = .ok (.invokestatic 172, 3) := by decide +kernel
set_option maxRecDepth 20000 in
theorem dX6_tell_188 : decode cX6_tell 188 = .ok (.goto 31, 3) := by decide +kernel
set_option maxRecDepth 20000 in
theorem dX6_tell_191 : decode cX6_tell 191 = .ok (.aload_n 0, 1) := by decide +kernel
set_option maxRecDepth 20000 in
theorem dX6_tell_192 : decode cX6_tell 192 = .ok (.getfield 120, 3) := by decide +kernel
set_option maxRecDepth 20000 in
theorem dX6_tell_195 : decode cX6_tell 195 = .ok (.aload_n 1, 1) := by decide +kernel
set_option maxRecDepth 20000 in
theorem dX6_tell_196 : decode cX6_tell 196 = .ok (.iconst 1, 1) := by decide +kernel
set_option maxRecDepth 20000 in
theorem dX6_tell_197 : decode cX6_tell 197 = .ok (.invokevirtual 54, 3) := by decide +kernel
set_option maxRecDepth 20000 in
theorem dX6_tell_200 : decode cX6_tell 200 = .ok (.invokevirtual 98, 3) := by decide +kernel
set_option maxRecDepth 20000 in
theorem dX6_tell_203 : decode cX6_tell 203 = .ok (.aload_n 2, 1) := by decide +kernel
set_option maxRecDepth 20000 in
theorem dX6_tell_204 : decode cX6_tell 204 = .ok (.invokestatic 175, 3) := by decide +kernel
set_option maxRecDepth 20000 in
theorem dX6_tell_207 : decode cX6_tell 207 = .ok (.goto 12, 3) := by decide +kernel
set_option maxRecDepth 20000 in
theorem dX6_tell_210 : decode cX6_tell 210 = .ok (.aload_n 0, 1) := by decide +kernel
set_option maxRecDepth 20000 in
theorem dX6_tell_211 : decode cX6_tell 211 = .ok (.getfield 94, 3) := by decide +kernel
set_option maxRecDepth 20000 in
theorem dX6_tell_214 : decode cX6_tell 214 = .ok (.aload_n 1, 1) := by decide +kernel
set_option maxRecDepth 20000 in
theorem dX6_tell_215 : decode cX6_tell 215 = .ok (.aload_n 2, 1) := by decide +kernel
set_option maxRecDepth 20000 in
theorem dX6_tell_216 : decode cX6_tell 216 = .ok (.invokestatic 179, 3) := by decide +kernel
set_option maxRecDepth 20000 in
theorem dX6_tell_219 : decode cX6_tell 219 = .ok (.return_, 1) := by decide +kernel
set_option maxRecDepth 20000 in
theorem dX6_readBits_0 : decode cX6_readBits 0 = .ok (.aload_n 1, 1) := by decide +kernel
set_option maxRecDepth 20000 in
theorem dX6_readBits_1 : decode cX6_readBits 1 = .ok (.iconst 1, 1) := by decide +kernel
set_option maxRecDepth 20000 in
theorem dX6_readBits_2 : decode cX6_readBits 2 = .ok (.invokevirtual 54, 3) := by decide +kernel
set_option maxRecDepth 20000 in
theorem dX6_readBits_5 : decode cX6_readBits 5 = .ok (.istore_n 3, 1) := by decide +kernel
set_option maxRecDepth 20000 in
theorem dX6_readBits_6 : decode cX6_readBits 6 = .ok (.aload_n 1, 1) := by decide +kernel
set_option maxRecDepth 20000 in
theorem dX6_readBits_7 : decode cX6_readBits 7 = .ok (.iconst 3, 1) := by decide +kernel
set_option maxRecDepth 20000 in
theorem dX6_readBits_8 : decode cX6_readBits 8 = .ok (.invokevirtual 54, 3) := by decide +kernel
set_option maxRecDepth 20000 in
theorem dX6_readBits_11 : decode cX6_readBits 11 = .ok (.istore 4, 2) := by decide +kernel
set_option maxRecDepth 20000 in
theorem dX6_readBits_13 : decode cX6_readBits 13 = .ok (.aload_n 2, 1) := by decide +kernel
set_option maxRecDepth 20000 in
theorem dX6_readBits_14 : decode cX6_readBits 14 = .ok (.aload_n 1, 1) := by decide +kernel
set_option maxRecDepth 20000 in
theorem dX6_readBits_15 : decode cX6_readBits 15 = .ok (.iconst 0, 1) := by decide +kernel
set_option maxRecDepth 20000 in
theorem dX6_readBits_16 : decode cX6_readBits 16 = .ok (.invokevirtual 36, 3) := by decide +kernel
set_option maxRecDepth 20000 in
theorem dX6_readBits_19 : decode cX6_readBits 19 = .ok (.invokevirtual 40, 3) := by decide +kernel
set_option maxRecDepth 20000 in
theorem dX6_readBits_22 : decode cX6_readBits 22 = .ok (.aload_n 2, 1) := by decide +kernel
set_option maxRecDepth 20000 in
theorem dX6_readBits_23 : decode cX6_readBits 23 = .ok (.iload 4, 2) := by decide +kernel
set_option maxRecDepth 20000 in
theorem dX6_readBits_25 : decode cX6_readBits 25 = .ok (.bipush 7, 2) := by decide +kernel
set_option maxRecDepth 20000 in
theorem dX6_readBits_27 : decode cX6_readBits 27 = .ok (.iadd, 1) := by decide +kernel
set_option maxRecDepth 20000 in
theorem dX6_readBits_28 : decode cX6_readBits 28 = .ok (.bipush 8, 2) := by decide +kernel
set_option maxRecDepth 20000 in
theorem dX6_readBits_30 : decode cX6_readBits 30 = .ok (.idiv, 1) := by decide +kernel
set_option maxRecDepth 20000 in
theorem dX6_readBits_31 : decode cX6_readBits 31 = .ok (.invokevirtual 40, 3) := by decide +kernel
set_option maxRecDepth 20000 in
theorem dX6_readBits_34 : decode cX6_readBits 34 = .ok (.iconst 0, 1) := by decide +kernel
set_option maxRecDepth 20000 in
theorem dX6_readBits_35 : decode cX6_readBits 35 = .ok (.istore 5, 2) := by decide +kernel
set_option maxRecDepth 20000 in
theorem dX6_readBits_37 : decode cX6_readBits 37 = .ok (.iload 5, 2) := by decide +kernel
set_option maxRecDepth 20000 in
theorem dX6_readBits_39 : decode cX6_readBits 39 = .ok (.iload 4, 2) := by decide +kernel
set_option maxRecDepth 20000 in
theorem dX6_readBits_41 : decode cX6_readBits 41 = .ok (.if_icmp .ge 26, 3) := by decide +kernel
set_option maxRecDepth 20000 in
theorem dX6_readBits_44 : decode cX6_readBits 44 = .ok (.aload_n 2, 1) := by decide +kernel
set_option maxRecDepth 20000 in
theorem dX6_readBits_45 : decode cX6_readBits 45 = .ok (.aload_n 0, 1) := by decide +kernel
set_option maxRecDepth 20000 in
theorem dX6_readBits_46 : decode cX6_readBits 46 = .ok (.iload_n 3, 1) := by decide +kernel
set_option maxRecDepth 20000 in
theorem dX6_readBits_47 : decode cX6_readBits 47 = .ok (.iload 5, 2) := by decide +kernel
set_option maxRecDepth 20000 in
theorem dX6_readBits_49 : decode cX6_readBits 49 = .ok (.iadd, 1) := by decide +kernel
set_option maxRecDepth 20000 in
theorem dX6_readBits_50 : decode cX6_readBits 50 = .ok (.iload 4, 2) := by decide +kernel
set_option maxRecDepth 20000 in
theorem dX6_readBits_52 : decode cX6_readBits 52 = .ok (.iload 5, 2) := by decide +kernel
set_option maxRecDepth 20000 in
theorem dX6_readBits_54 : decode cX6_readBits 54 = .ok (.isub, 1) := by decide +kernel
set_option maxRecDepth 20000 in
theorem dX6_readBits_55 : decode cX6_readBits 55 = .ok (.invokevirtual 156, 3) := by decide +kernel
set_option maxRecDepth 20000 in
theorem dX6_readBits_58 : decode cX6_readBits 58 = .ok (.invokevirtual 40, 3) := by decide +kernel
set_option maxRecDepth 20000 in
theorem dX6_readBits_61 : decode cX6_readBits 61 = .ok (.iinc 5 8, 3) := by decide +kernel
set_option maxRecDepth 20000 in
theorem dX6_readBits_64 : decode cX6_readBits 64 = .ok (.goto (-27), 3) := by decide +kernel
set_option maxRecDepth 20000 in
theorem dX6_readBits_67 : decode cX6_readBits 67 = .ok (.return_, 1) := by decide +kernel
set_option maxRecDepth 20000 in
theorem dX6_readWords_0 : decode cX6_readWords 0 = .ok (.aload_n 1, 1) := by decide +kernel
set_option maxRecDepth 20000 in
theorem dX6_readWords_1 : decode cX6_readWords 1 = .ok (.iconst 1, 1) := by decide +kernel
set_option maxRecDepth 20000 in
theorem dX6_readWords_2 : decode cX6_readWords 2 = .ok (.invokevirtual 54, 3) := by decide +kernel
set_option maxRecDepth 20000 in
theorem dX6_readWords_5 : decode cX6_readWords 5 = .ok (.istore_n 3, 1) := by decide +kernel
set_option maxRecDepth 20000 in
theorem dX6_readWords_6 : decode cX6_readWords 6 = .ok (.aload_n 1, 1) := by decide +kernel
set_option maxRecDepth 20000 in
theorem dX6_readWords_7 : decode cX6_readWords 7 = .ok (.iconst 3, 1) := by decide +kernel
set_option maxRecDepth 20000 in
theorem dX6_readWords_8 : decode cX6_readWords 8 = .ok (.invokevirtual 54, 3) := by decide +kernel
set_option maxRecDepth 20000 in
theorem dX6_readWords_11 : decode cX6_readWords 11 = .ok (.istore 4, 2) := by decide +kernel
set_option maxRecDepth 20000 in
theorem dX6_readWords_13 : decode cX6_readWords 13 = .ok (.aload_n 2, 1) := by decide +kernel
set_option maxRecDepth 20000 in
theorem dX6_readWords_14 : decode cX6_readWords 14 = .ok (.aload_n 1, 1) := by decide +kernel
set_option maxRecDepth 20000 in
theorem dX6_readWords_15 : decode cX6_readWords 15 = .ok (.iconst 0, 1) := by decide +kernel
set_option maxRecDepth 20000 in
theorem dX6_readWords_16 : decode cX6_readWords 16 = .ok (.invokevirtual 36, 3) := by decide +kernel
set_option maxRecDepth 20000 in
theorem dX6_readWords_19 : decode cX6_readWords 19 = .ok (.invokevirtual 40, 3) := by decide +kernel
set_option maxRecDepth 20000 in
theorem dX6_readWords_22 : decode cX6_readWords 22 = .ok (.aload_n 2, 1) := by decide +kernel
set_option maxRecDepth 20000 in
theorem dX6_readWords_23 : decode cX6_readWords 23 = .ok (.iconst 2, 1) := by decide +kernel
set_option maxRecDepth 20000 in
theorem dX6_readWords_24 : decode cX6_readWords 24 = .ok (.iload 4, 2) := by decide +kernel
set_option maxRecDepth 20000 in
theorem dX6_readWords_26 : decode cX6_readWords 26 = .ok (.imul, 1) := by decide +kernel
set_option maxRecDepth 20000 in
theorem dX6_readWords_27 : decode cX6_readWords 27 = .ok (.invokevirtual 40, 3) := by decide +kernel
set_option maxRecDepth 20000 in
theorem dX6_readWords_30 : decode cX6_readWords 30 = .ok (.iconst 0, 1) := by decide +kernel
set_option maxRecDepth 20000 in
theorem dX6_readWords_31 : decode cX6_readWords 31 = .ok (.istore 5, 2) := by decide +kernel
set_option maxRecDepth 20000 in
theorem dX6_readWords_33 : decode cX6_readWords 33 = .ok (.iload 5, 2) := by decide +kernel
set_option maxRecDepth 20000 in
theorem dX6_readWords_35 : decode cX6_readWords 35 = .ok (.iload 4, 2) := by decide +kernel
set_option maxRecDepth 20000 in
theorem dX6_readWords_37 : decode cX6_readWords 37 = .ok (.if_icmp .ge 21, 3) := by decide +kernel
set_option maxRecDepth 20000 in
theorem dX6_readWords_40 : decode cX6_readWords 40 = .ok (.aload_n 2, 1) := by decide +kernel
set_option maxRecDepth 20000 in
theorem dX6_readWords_41 : decode cX6_readWords 41 = .ok (.aload_n 0, 1) := by decide +kernel
set_option maxRecDepth 20000 in
theorem dX6_readWords_42 : decode cX6_readWords 42 = .ok (.iload_n 3, 1) := by decide +kernel
set_option maxRecDepth 20000 in
theorem dX6_readWords_43 : decode cX6_readWords 43 = .ok (.iload 5, 2) := by decide +kernel
set_option maxRecDepth 20000 in
theorem dX6_readWords_45 : decode cX6_readWords 45 = .ok (.iadd, 1) := by decide +kernel
set_option maxRecDepth 20000 in
theorem dX6_readWords_46 : decode cX6_readWords 46 = .ok (.invokevirtual 110, 3) := by decide +kernel
set_option maxRecDepth 20000 in
theorem dX6_readWords_49 : decode cX6_readWords 49 = .ok (.invokevirtual 160, 3) := by decide +kernel
set_option maxRecDepth 20000 in
theorem dX6_readWords_52 : decode cX6_readWords 52 = .ok (.iinc 5 1, 3) := by decide +kernel
set_option maxRecDepth 20000 in
theorem dX6_readWords_55 : decode cX6_readWords 55 = .ok (.goto (-22), 3) := by decide +kernel
set_option maxRecDepth 20000 in
theorem dX6_readWords_58 : decode cX6_readWords 58 = .ok (.return_, 1) := by decide +kernel
set_option maxRecDepth 20000 in
theorem dX6_writeBits_0 : decode cX6_writeBits 0 = .ok (.aload_n 1, 1) := by decide +kernel
set_option maxRecDepth 20000 in
theorem dX6_writeBits_1 : decode cX6_writeBits 1 = .ok (.iconst 1, 1) := by decide +kernel
set_option maxRecDepth 20000 in
theorem dX6_writeBits_2 : decode cX6_writeBits 2 = .ok (.invokevirtual 54, 3) := by decide +kernel
set_option maxRecDepth 20000 in
theorem dX6_writeBits_5 : decode cX6_writeBits 5 = .ok (.istore_n 2, 1) := by decide +kernel
set_option maxRecDepth 20000 in
theorem dX6_writeBits_6 : decode cX6_writeBits 6 = .ok (.aload_n 1, 1) := by decide +kernel
set_option maxRecDepth 20000 in
theorem dX6_writeBits_7 : decode cX6_writeBits 7 = .ok (.iconst 3, 1) := by decide +kernel
set_option maxRecDepth 20000 in
theorem dX6_writeBits_8 : decode cX6_writeBits 8 = .ok (.invokevirtual 54, 3) := by decide +kernel
set_option maxRecDepth 20000 in
theorem dX6_writeBits_11 : decode cX6_writeBits 11 = .ok (.istore_n 3, 1) := by decide +kernel
set_option maxRecDepth 20000 in
theorem dX6_writeBits_12 : decode cX6_writeBits 12 = .ok (.iconst 0, 1) := by decide +kernel
set_option maxRecDepth 20000 in
theorem dX6_writeBits_13 : decode cX6_writeBits 13 = .ok (.istore 4, 2) := by decide +kernel
set_option maxRecDepth 20000 in
theorem dX6_writeBits_15 : decode cX6_writeBits 15 = .ok (.iload 4, 2) := by decide +kernel
set_option maxRecDepth 20000 in
theorem dX6_writeBits_17 : decode cX6_writeBits 17 = .ok (.iload_n 3, 1) := by decide +kernel
set_option maxRecDepth 20000 in
theorem dX6_writeBits_18 : decode cX6_writeBits 18 = .ok (.if_icmp .ge 35, 3) := by decide +kernel
set_option maxRecDepth 20000 in
theorem dX6_writeBits_21 : decode cX6_writeBits 21 = .ok (.aload_n 0, 1) := by decide +kernel
set_option maxRecDepth 20000 in
theorem dX6_writeBits_22 : decode cX6_writeBits 22 = .ok (.iload_n 2, 1) := by decide +kernel
set_option maxRecDepth 20000 in
theorem dX6_writeBits_23 : decode cX6_writeBits 23 = .ok (.iload 4, 2) := by decide +kernel
set_option maxRecDepth 20000 in
theorem dX6_writeBits_25 : decode cX6_writeBits 25 = .ok (.iadd, 1) := by decide +kernel
set_option maxRecDepth 20000 in
theorem dX6_writeBits_26 : decode cX6_writeBits 26 = .ok (.aload_n 1, 1) := by decide +kernel
set_option maxRecDepth 20000 in
theorem dX6_writeBits_27 : decode cX6_writeBits 27 = .ok (.bipush 6, 2) := by decide +kernel
set_option maxRecDepth 20000 in
theorem dX6_writeBits_29 : decode cX6_writeBits 29 = .ok (.iload 4, 2) := by decide +kernel
set_option maxRecDepth 20000 in
theorem dX6_writeBits_31 : decode cX6_writeBits 31 = .ok (.bipush 8, 2) := by decide +kernel
set_option maxRecDepth 20000 in
theorem dX6_writeBits_33 : decode cX6_writeBits 33 = .ok (.idiv, 1) := by decide +kernel
set_option maxRecDepth 20000 in
theorem dX6_writeBits_34 : decode cX6_writeBits 34 = .ok (.iadd, 1) := by decide +kernel
set_option maxRecDepth 20000 in
theorem dX6_writeBits_35 : decode cX6_writeBits 35 = .ok (.invokevirtual 36, 3) := by decide +kernel
set_option maxRecDepth 20000 in
theorem dX6_writeBits_38 : decode cX6_writeBits 38 = .ok (.iload 4, 2) := by decide +kernel
set_option maxRecDepth 20000 in
theorem dX6_writeBits_40 : decode cX6_writeBits 40 = .ok (.bipush 8, 2) := by decide +kernel
set_option maxRecDepth 20000 in
theorem dX6_writeBits_42 : decode cX6_writeBits 42 = .ok (.irem, 1) := by decide +kernel
set_option maxRecDepth 20000 in
theorem dX6_writeBits_43 : decode cX6_writeBits 43 = .ok (.ishr, 1) := by decide +kernel
set_option maxRecDepth 20000 in
theorem dX6_writeBits_44 : decode cX6_writeBits 44 = .ok (.invokevirtual 130, 3) := by decide +kernel
set_option maxRecDepth 20000 in
theorem dX6_writeBits_47 : decode cX6_writeBits 47 = .ok (.iinc 4 1, 3) := by decide +kernel
set_option maxRecDepth 20000 in
theorem dX6_writeBits_50 : decode cX6_writeBits 50 = .ok (.goto (-35), 3) := by decide +kernel
set_option maxRecDepth 20000 in
theorem dX6_writeBits_53 : decode cX6_writeBits 53 = .ok (.return_, 1) := by decide +kernel
set_option maxRecDepth 20000 in
theorem dX6_writeWords_0 : decode cX6_writeWords 0 = .ok (.iconst 0, 1) := by decide +kernel
set_option maxRecDepth 20000 in
theorem dX6_writeWords_1 : decode cX6_writeWords 1 = .ok (.istore 5, 2) := by decide +kernel
set_option maxRecDepth 20000 in
theorem dX6_writeWords_3 : decode cX6_writeWords 3 = .ok (.iload 5, 2) := by decide +kernel
set_option maxRecDepth 20000 in
theorem dX6_writeWords_5 : decode cX6_writeWords 5 = .ok (.iload_n 2, 1) := by decide +kernel
set_option maxRecDepth 20000 in
theorem dX6_writeWords_6 : decode cX6_writeWords 6 = .ok (.if_icmp .ge 28, 3) := by decide +kernel
set_option maxRecDepth 20000 in
theorem dX6_writeWords_9 : decode cX6_writeWords 9 = .ok (.aload_n 0, 1) := by decide +kernel
set_option maxRecDepth 20000 in
theorem dX6_writeWords_10 : decode cX6_writeWords 10 = .ok (.iload_n 1, 1) := by decide +kernel
set_option maxRecDepth 20000 in
theorem dX6_writeWords_11 : decode cX6_writeWords 11 = .ok (.iload 5, 2) := by decide +kernel
set_option maxRecDepth 20000 in
theorem dX6_writeWords_13 : decode cX6_writeWords 13 = .ok (.iadd, 1) := by decide +kernel
set_option maxRecDepth 20000 in
theorem dX6_writeWords_14 : decode cX6_writeWords 14 = .ok (.aload_n 3, 1) := by decide +kernel
set_option maxRecDepth 20000 in
theorem dX6_writeWords_15 : decode cX6_writeWords 15 = .ok (.iload 4, 2) := by decide +kernel
set_option maxRecDepth 20000 in
theorem dX6_writeWords_17 : decode cX6_writeWords 17 = .ok (.iconst 2, 1) := by decide +kernel
set_option maxRecDepth 20000 in
theorem dX6_writeWords_18 : decode cX6_writeWords 18 = .ok (.iload 5, 2) := by decide +kernel
set_option maxRecDepth 20000 in
theorem dX6_writeWords_20 : decode cX6_writeWords 20 = .ok (.imul, 1) := by decide +kernel
set_option maxRecDepth 20000 in
theorem dX6_writeWords_21 : decode cX6_writeWords 21 = .ok (.iadd, 1) := by decide +kernel
set_option maxRecDepth 20000 in
theorem dX6_writeWords_22 : decode cX6_writeWords 22 = .ok (.invokevirtual 54, 3) := by decide +kernel
set_option maxRecDepth 20000 in
theorem dX6_writeWords_25 : decode cX6_writeWords 25 = .ok (.invokevirtual 130, 3) := by decide +kernel
set_option maxRecDepth 20000 in
theorem dX6_writeWords_28 : decode cX6_writeWords 28 = .ok (.iinc 5 1, 3) := by decide +kernel
set_option maxRecDepth 20000 in
theorem dX6_writeWords_31 : decode cX6_writeWords 31 = .ok (.goto (-28), 3) := by decide +kernel
set_option maxRecDepth 20000 in
theorem dX6_writeWords_34 : decode cX6_writeWords 34 = .ok (.return_, 1) := by decide +kernel
set_option maxRecDepth 20000 in
theorem dX6_diagnose_0 : decode cX6_diagnose 0 = .ok (.aload_n 1, 1) := by decide +kernel
set_option maxRecDepth 20000 in
theorem dX6_diagnose_1 : decode cX6_diagnose 1 = .ok (.iconst 1, 1) := by decide +kernel
set_option maxRecDepth 20000 in
theorem dX6_diagnose_2 : decode cX6_diagnose 2 = .ok (.invokevirtual 54, 3) := by decide +kernel
set_option maxRecDepth 20000 in
theorem dX6_diagnose_5 : decode cX6_diagnose 5 = .ok (.istore_n 3, 1) := by decide +kernel
set_option maxRecDepth 20000 in
theorem dX6_diagnose_6 : decode cX6_diagnose 6 = .ok (.iload_n 3, 1) := by decide +kernel
set_option maxRecDepth 20000 in
theorem dX6_diagnose_7 : decode cX6_diagnose 7 = .ok (.lookupswitch 110 #[(1, 41), (4, 78), (10, 92), (20, 99)], 41) := by decide +kernel
set_option maxRecDepth 20000 in
theorem dX6_diagnose_48 : decode cX6_diagnose 48 = .ok (.aload_n 0, 1) := by decide +kernel
set_option maxRecDepth 20000 in
theorem dX6_diagnose_49 : decode cX6_diagnose 49 = .ok (.invokevirtual 183, 3) := by decide +kernel
set_option maxRecDepth 20000 in
theorem dX6_diagnose_52 : decode cX6_diagnose 52 = .ok (.aload_n 1, 1) := by decide +kernel
set_option maxRecDepth 20000 in
theorem dX6_diagnose_53 : decode cX6_diagnose 53 = .ok (.iconst 3, 1) := by decide +kernel
set_option maxRecDepth 20000 in
theorem dX6_diagnose_54 : decode cX6_diagnose 54 = .ok (.invokevirtual 54, 3) := by decide +kernel
set_option maxRecDepth 20000 in
theorem dX6_diagnose_57 : decode cX6_diagnose 57 = .ok (.ldc 76, 2) := by decide +kernel
set_option maxRecDepth 20000 in
theorem dX6_diagnose_59 : decode cX6_diagnose 59 = .ok (.if_icmp .ne 10, 3) := by decide +kernel
set_option maxRecDepth 20000 in
theorem dX6_diagnose_62 : decode cX6_diagnose 62 = .ok (.aload_n 0, 1) := by decide +kernel
set_option maxRecDepth 20000 in
theorem dX6_diagnose_63 : decode cX6_diagnose 63 = .ok (.getfield 186, 3) := by decide +kernel
set_option maxRecDepth 20000 in
theorem dX6_diagnose_66 : decode cX6_diagnose 66 = .ok (.invokevirtual 9, 3) := by decide +kernel
set_option maxRecDepth 20000 in
theorem dX6_diagnose_69 : decode cX6_diagnose 69 = .ok (.aload_n 0, 1) := by decide +kernel
set_option maxRecDepth 20000 in
theorem dX6_diagnose_70 : decode cX6_diagnose 70 = .ok (.getfield 186, 3) := by decide +kernel
set_option maxRecDepth 20000 in
theorem dX6_diagnose_73 : decode cX6_diagnose 73 = .ok (.iconst 0, 1) := by decide +kernel
set_option maxRecDepth 20000 in
theorem dX6_diagnose_74 : decode cX6_diagnose 74 = .ok (.invokevirtual 190, 3) := by decide +kernel
set_option maxRecDepth 20000 in
theorem dX6_diagnose_77 : decode cX6_diagnose 77 = .ok (.aload_n 0, 1) := by decide +kernel
set_option maxRecDepth 20000 in
theorem dX6_diagnose_78 : decode cX6_diagnose 78 = .ok (.iconst 0, 1) := by decide +kernel
set_option maxRecDepth 20000 in
theorem dX6_diagnose_79 : decode cX6_diagnose 79 = .ok (.putfield 193, 3) := by decide +kernel
set_option maxRecDepth 20000 in
theorem dX6_diagnose_82 : decode cX6_diagnose 82 = .ok (.goto 35, 3) := by decide +kernel
set_option maxRecDepth 20000 in
theorem dX6_diagnose_85 : decode cX6_diagnose 85 = .ok (.aload_n 0, 1) := by decide +kernel
set_option maxRecDepth 20000 in
theorem dX6_diagnose_86 : decode cX6_diagnose 86 = .ok (.iconst 1, 1) := by decide +kernel
set_option maxRecDepth 20000 in
theorem dX6_diagnose_87 : decode cX6_diagnose 87 = .ok (.putfield 193, 3) := by decide +kernel
set_option maxRecDepth 20000 in
theorem dX6_diagnose_90 : decode cX6_diagnose 90 = .ok (.aload_n 0, 1) := by decide +kernel
set_option maxRecDepth 20000 in
theorem dX6_diagnose_91 : decode cX6_diagnose 91 = .ok (.getfield 186, 3) := by decide +kernel
set_option maxRecDepth 20000 in
theorem dX6_diagnose_94 : decode cX6_diagnose 94 = .ok (.iconst 4, 1) := by decide +kernel
set_option maxRecDepth 20000 in
theorem dX6_diagnose_95 : decode cX6_diagnose 95 = .ok (.invokevirtual 190, 3) := by decide +kernel
set_option maxRecDepth 20000 in
theorem dX6_diagnose_98 : decode cX6_diagnose 98 = .ok (.return_, 1) := by decide +kernel
set_option maxRecDepth 20000 in
theorem dX6_diagnose_99 : decode cX6_diagnose 99 = .ok (.aload_n 0, 1) := by decide +kernel
set_option maxRecDepth 20000 in
theorem dX6_diagnose_100 : decode cX6_diagnose 100 = .ok (.invokevirtual 183, 3) := by decide +kernel
set_option maxRecDepth 20000 in
theorem dX6_diagnose_103 : decode cX6_diagnose 103 = .ok (.goto 14, 3) := by decide +kernel
set_option maxRecDepth 20000 in
theorem dX6_diagnose_106 : decode cX6_diagnose 106 = .ok (.aload_n 0, 1) := by decide +kernel
set_option maxRecDepth 20000 in
theorem dX6_diagnose_107 : decode cX6_diagnose 107 = .ok (.getfield 197, 3) := by decide +kernel
set_option maxRecDepth 20000 in
theorem dX6_diagnose_110 : decode cX6_diagnose 110 = .ok (.bipush 7, 2) := by decide +kernel
set_option maxRecDepth 20000 in
theorem dX6_diagnose_112 : decode cX6_diagnose 112 = .ok (.iconst 0, 1) := by decide +kernel
set_option maxRecDepth 20000 in
theorem dX6_diagnose_113 : decode cX6_diagnose 113 = .ok (.iastore, 1) := by decide +kernel
set_option maxRecDepth 20000 in
theorem dX6_diagnose_114 : decode cX6_diagnose 114 = .ok (.goto 3, 3) := by decide +kernel
set_option maxRecDepth 20000 in
theorem dX6_diagnose_117 : decode cX6_diagnose 117 = .ok (.aload_n 2, 1) := by decide +kernel
set_option maxRecDepth 20000 in
theorem dX6_diagnose_118 : decode cX6_diagnose 118 = .ok (.aload_n 1, 1) := by decide +kernel
set_option maxRecDepth 20000 in
theorem dX6_diagnose_119 : decode cX6_diagnose 119 = .ok (.iconst 0, 1) := by decide +kernel
set_option maxRecDepth 20000 in
theorem dX6_diagnose_120 : decode cX6_diagnose 120 = .ok (.aload_n 1, 1) := by decide +kernel
set_option maxRecDepth 20000 in
theorem dX6_diagnose_121 : decode cX6_diagnose 121 = .ok (.getfield 104, 3) := by decide +kernel
set_option maxRecDepth 20000 in
theorem dX6_diagnose_124 : decode cX6_diagnose 124 = .ok (.invokevirtual 134, 3) := by decide +kernel
set_option maxRecDepth 20000 in
theorem dX6_diagnose_127 : decode cX6_diagnose 127 = .ok (.iload_n 3, 1) := by decide +kernel
set_option maxRecDepth 20000 in
theorem dX6_diagnose_128 : decode cX6_diagnose 128 = .ok (.bipush 11, 2) := by decide +kernel
set_option maxRecDepth 20000 in
theorem dX6_diagnose_130 : decode cX6_diagnose 130 = .ok (.bipush 18, 2) := by decide +kernel
set_option maxRecDepth 20000 in
theorem dX6_diagnose_132 : decode cX6_diagnose 132 = .ok (.invokestatic 201, 3) := by decide +kernel
set_option maxRecDepth 20000 in
theorem dX6_diagnose_135 : decode cX6_diagnose 135 = .ok (.ifCond .eq 20, 3) := by decide +kernel
set_option maxRecDepth 20000 in
theorem dX6_diagnose_138 : decode cX6_diagnose 138 = .ok (.aload_n 2, 1) := by decide +kernel
set_option maxRecDepth 20000 in
theorem dX6_diagnose_139 : decode cX6_diagnose 139 = .ok (.iconst 3, 1) := by decide +kernel
set_option maxRecDepth 20000 in
theorem dX6_diagnose_140 : decode cX6_diagnose 140 = .ok (.invokevirtual 205, 3) := by decide +kernel
set_option maxRecDepth 20000 in
theorem dX6_diagnose_143 : decode cX6_diagnose 143 = .ok (.aload_n 2, 1) := by decide +kernel
set_option maxRecDepth 20000 in
theorem dX6_diagnose_144 : decode cX6_diagnose 144 = .ok (.aload_n 0, 1) := by decide +kernel
set_option maxRecDepth 20000 in
theorem dX6_diagnose_145 : decode cX6_diagnose 145 = .ok (.iload_n 3, 1) := by decide +kernel
set_option maxRecDepth 20000 in
theorem dX6_diagnose_146 : decode cX6_diagnose 146 = .ok (.bipush 11, 2) := by decide +kernel
set_option maxRecDepth 20000 in
theorem dX6_diagnose_148 : decode cX6_diagnose 148 = .ok (.isub, 1) := by decide +kernel
set_option maxRecDepth 20000 in
theorem dX6_diagnose_149 : decode cX6_diagnose 149 = .ok (.invokevirtual 163, 3) := by decide +kernel
set_option maxRecDepth 20000 in
theorem dX6_diagnose_152 : decode cX6_diagnose 152 = .ok (.invokevirtual 160, 3) := by decide +kernel
set_option maxRecDepth 20000 in
theorem dX6_diagnose_155 : decode cX6_diagnose 155 = .ok (.return_, 1) := by decide +kernel
set_option maxRecDepth 20000 in
theorem dX6_tellEvents_0 : decode cX6_tellEvents 0 = .ok (.aload_n 0, 1) := by decide +kernel
set_option maxRecDepth 20000 in
theorem dX6_tellEvents_1 : decode cX6_tellEvents 1 = .ok (.getfield 186, 3) := by decide +kernel
set_option maxRecDepth 20000 in
theorem dX6_tellEvents_4 : decode cX6_tellEvents 4 = .ok (.astore_n 2, 1) := by decide +kernel
set_option maxRecDepth 20000 in
theorem dX6_tellEvents_5 : decode cX6_tellEvents 5 = .ok (.aload_n 1, 1) := by decide +kernel
set_option maxRecDepth 20000 in
theorem dX6_tellEvents_6 : decode cX6_tellEvents 6 = .ok (.bipush 12, 2) := by decide +kernel
set_option maxRecDepth 20000 in
theorem dX6_tellEvents_8 : decode cX6_tellEvents 8 = .ok (.invokevirtual 40, 3) := by decide +kernel
set_option maxRecDepth 20000 in
theorem dX6_tellEvents_11 : decode cX6_tellEvents 11 = .ok (.aload_n 1, 1) := by decide +kernel
set_option maxRecDepth 20000 in
theorem dX6_tellEvents_12 : decode cX6_tellEvents 12 = .ok (.bipush 6, 2) := by decide +kernel
set_option maxRecDepth 20000 in
theorem dX6_tellEvents_14 : decode cX6_tellEvents 14 = .ok (.aload_n 2, 1) := by decide +kernel
set_option maxRecDepth 20000 in
theorem dX6_tellEvents_15 : decode cX6_tellEvents 15 = .ok (.getfield 104, 3) := by decide +kernel
set_option maxRecDepth 20000 in
theorem dX6_tellEvents_18 : decode cX6_tellEvents 18 = .ok (.iadd, 1) := by decide +kernel
set_option maxRecDepth 20000 in
theorem dX6_tellEvents_19 : decode cX6_tellEvents 19 = .ok (.invokevirtual 40, 3) := by decide +kernel
set_option maxRecDepth 20000 in
theorem dX6_tellEvents_22 : decode cX6_tellEvents 22 = .ok (.aload_n 1, 1) := by decide +kernel
set_option maxRecDepth 20000 in
theorem dX6_tellEvents_23 : decode cX6_tellEvents 23 = .ok (.iconst 0, 1) := by decide +kernel
set_option maxRecDepth 20000 in
theorem dX6_tellEvents_24 : decode cX6_tellEvents 24 = .ok (.invokevirtual 160, 3) := by decide +kernel
set_option maxRecDepth 20000 in
theorem dX6_tellEvents_27 : decode cX6_tellEvents 27 = .ok (.aload_n 1, 1) := by decide +kernel
set_option maxRecDepth 20000 in
theorem dX6_tellEvents_28 : decode cX6_tellEvents 28 = .ok (.aload_n 0, 1) := by decide +kernel
set_option maxRecDepth 20000 in
theorem dX6_tellEvents_29 : decode cX6_tellEvents 29 = .ok (.bipush 8, 2) := by decide +kernel
set_option maxRecDepth 20000 in
theorem dX6_tellEvents_31 : decode cX6_tellEvents 31 = .ok (.invokevirtual 163, 3) := by decide +kernel
set_option maxRecDepth 20000 in
theorem dX6_tellEvents_34 : decode cX6_tellEvents 34 = .ok (.invokevirtual 160, 3) := by decide +kernel
set_option maxRecDepth 20000 in
theorem dX6_tellEvents_37 : decode cX6_tellEvents 37 = .ok (.aload_n 1, 1) := by decide +kernel
set_option maxRecDepth 20000 in
theorem dX6_tellEvents_38 : decode cX6_tellEvents 38 = .ok (.aload_n 0, 1) := by decide +kernel
set_option maxRecDepth 20000 in
theorem dX6_tellEvents_39 : decode cX6_tellEvents 39 = .ok (.iconst 0, 1) := by decide +kernel
set_option maxRecDepth 20000 in
theorem dX6_tellEvents_40 : decode cX6_tellEvents 40 = .ok (.invokevirtual 163, 3) := by decide +kernel
set_option maxRecDepth 20000 in
theorem dX6_tellEvents_43 : decode cX6_tellEvents 43 = .ok (.invokevirtual 160, 3) := by decide +kernel
set_option maxRecDepth 20000 in
theorem dX6_tellEvents_46 : decode cX6_tellEvents 46 = .ok (.aload_n 2, 1) := by decide +kernel
set_option maxRecDepth 20000 in
theorem dX6_tellEvents_47 : decode cX6_tellEvents 47 = .ok (.getfield 104, 3) := by decide +kernel
set_option maxRecDepth 20000 in
theorem dX6_tellEvents_50 : decode cX6_tellEvents 50 = .ok (.iconst 1, 1) := by decide +kernel
set_option maxRecDepth 20000 in
theorem dX6_tellEvents_51 : decode cX6_tellEvents 51 = .ok (.isub, 1) := by decide +kernel
set_option maxRecDepth 20000 in
theorem dX6_tellEvents_52 : decode cX6_tellEvents 52 = .ok (.istore_n 3, 1) := by decide +kernel
set_option maxRecDepth 20000 in
theorem dX6_tellEvents_53 : decode cX6_tellEvents 53 = .ok (.iload_n 3, 1) := by decide +kernel
set_option maxRecDepth 20000 in
theorem dX6_tellEvents_54 : decode cX6_tellEvents 54 = .ok (.ifCond .lt 18, 3) := by decide +kernel
set_option maxRecDepth 20000 in
theorem dX6_tellEvents_57 : decode cX6_tellEvents 57 = .ok (.aload_n 1, 1) := by decide +kernel
set_option maxRecDepth 20000 in
theorem dX6_tellEvents_58 : decode cX6_tellEvents 58 = .ok (.aload_n 2, 1) := by decide +kernel
set_option maxRecDepth 20000 in
theorem dX6_tellEvents_59 : decode cX6_tellEvents 59 = .ok (.iload_n 3, 1) := by decide +kernel
set_option maxRecDepth 20000 in
theorem dX6_tellEvents_60 : decode cX6_tellEvents 60 = .ok (.invokevirtual 36, 3) := by decide +kernel
set_option maxRecDepth 20000 in
theorem dX6_tellEvents_63 : decode cX6_tellEvents 63 = .ok (.invokevirtual 40, 3) := by decide +kernel
set_option maxRecDepth 20000 in
theorem dX6_tellEvents_66 : decode cX6_tellEvents 66 = .ok (.iinc 3 (-1), 3) := by decide +kernel
set_option maxRecDepth 20000 in
theorem dX6_tellEvents_69 : decode cX6_tellEvents 69 = .ok (.goto (-16), 3) := by decide +kernel
set_option maxRecDepth 20000 in
theorem dX6_tellEvents_72 : decode cX6_tellEvents 72 = .ok (.return_, 1) := by decide +kernel
set_option maxRecDepth 20000 in
theorem dX6_readFiles_0 : decode cX6_readFiles 0 = .ok (.aload_n 2, 1) := by decide +kernel
set_option maxRecDepth 20000 in
theorem dX6_readFiles_1 : decode cX6_readFiles 1 = .ok (.bipush 20, 2) := by decide +kernel
set_option maxRecDepth 20000 in
theorem dX6_readFiles_3 : decode cX6_readFiles 3 = .ok (.invokevirtual 40, 3) := by decide +kernel
set_option maxRecDepth 20000 in
theorem dX6_readFiles_6 : decode cX6_readFiles 6 = .ok (.aload_n 2, 1) := by decide +kernel
set_option maxRecDepth 20000 in
theorem dX6_readFiles_7 : decode cX6_readFiles 7 = .ok (.iconst 0, 1) := by decide +kernel
set_option maxRecDepth 20000 in
theorem dX6_readFiles_8 : decode cX6_readFiles 8 = .ok (.invokevirtual 40, 3) := by decide +kernel
set_option maxRecDepth 20000 in
theorem dX6_readFiles_11 : decode cX6_readFiles 11 = .ok (.iconst 2, 1) := by decide +kernel
set_option maxRecDepth 20000 in
theorem dX6_readFiles_12 : decode cX6_readFiles 12 = .ok (.istore_n 3, 1) := by decide +kernel
set_option maxRecDepth 20000 in
theorem dX6_readFiles_13 : decode cX6_readFiles 13 = .ok (.iload_n 3, 1) := by decide +kernel
set_option maxRecDepth 20000 in
theorem dX6_readFiles_14 : decode cX6_readFiles 14 = .ok (.bipush 7, 2) := by decide +kernel
set_option maxRecDepth 20000 in
theorem dX6_readFiles_16 : decode cX6_readFiles 16 = .ok (.iadd, 1) := by decide +kernel
set_option maxRecDepth 20000 in
theorem dX6_readFiles_17 : decode cX6_readFiles 17 = .ok (.aload_n 1, 1) := by decide +kernel
set_option maxRecDepth 20000 in
theorem dX6_readFiles_18 : decode cX6_readFiles 18 = .ok (.getfield 104, 3) := by decide +kernel
set_option maxRecDepth 20000 in
theorem dX6_readFiles_21 : decode cX6_readFiles 21 = .ok (.if_icmp .gt 94, 3) := by decide +kernel
set_option maxRecDepth 20000 in
theorem dX6_readFiles_24 : decode cX6_readFiles 24 = .ok (.aload_n 0, 1) := by decide +kernel
set_option maxRecDepth 20000 in
theorem dX6_readFiles_25 : decode cX6_readFiles 25 = .ok (.getfield 107, 3) := by decide +kernel
set_option maxRecDepth 20000 in
theorem dX6_readFiles_28 : decode cX6_readFiles 28 = .ok (.aload_n 1, 1) := by decide +kernel
set_option maxRecDepth 20000 in
theorem dX6_readFiles_29 : decode cX6_readFiles 29 = .ok (.iload_n 3, 1) := by decide +kernel
set_option maxRecDepth 20000 in
theorem dX6_readFiles_30 : decode cX6_readFiles 30 = .ok (.iconst 1, 1) := by decide +kernel
set_option maxRecDepth 20000 in
theorem dX6_readFiles_31 : decode cX6_readFiles 31 = .ok (.iadd, 1) := by decide +kernel
set_option maxRecDepth 20000 in
theorem dX6_readFiles_32 : decode cX6_readFiles 32 = .ok (.invokevirtual 54, 3) := by decide +kernel
set_option maxRecDepth 20000 in
theorem dX6_readFiles_35 : decode cX6_readFiles 35 = .ok (.invokevirtual 98, 3) := by decide +kernel
set_option maxRecDepth 20000 in
theorem dX6_readFiles_38 : decode cX6_readFiles 38 = .ok (.astore 4, 2) := by decide +kernel
set_option maxRecDepth 20000 in
theorem dX6_readFiles_40 : decode cX6_readFiles 40 = .ok (.aload_n 1, 1) := by decide +kernel
set_option maxRecDepth 20000 in
theorem dX6_readFiles_41 : decode cX6_readFiles 41 = .ok (.iload_n 3, 1) := by decide +kernel
set_option maxRecDepth 20000 in
theorem dX6_readFiles_42 : decode cX6_readFiles 42 = .ok (.iconst 3, 1) := by decide +kernel
set_option maxRecDepth 20000 in
theorem dX6_readFiles_43 : decode cX6_readFiles 43 = .ok (.iadd, 1) := by decide +kernel
set_option maxRecDepth 20000 in
theorem dX6_readFiles_44 : decode cX6_readFiles 44 = .ok (.invokevirtual 54, 3) := by decide +kernel
set_option maxRecDepth 20000 in
theorem dX6_readFiles_47 : decode cX6_readFiles 47 = .ok (.istore 5, 2) := by decide +kernel
set_option maxRecDepth 20000 in
theorem dX6_readFiles_49 : decode cX6_readFiles 49 = .ok (.aload_n 1, 1) := by decide +kernel
set_option maxRecDepth 20000 in
theorem dX6_readFiles_50 : decode cX6_readFiles 50 = .ok (.iload_n 3, 1) := by decide +kernel
set_option maxRecDepth 20000 in
theorem dX6_readFiles_51 : decode cX6_readFiles 51 = .ok (.iconst 5, 1) := by decide +kernel
set_option maxRecDepth 20000 in
theorem dX6_readFiles_52 : decode cX6_readFiles 52 = .ok (.iadd, 1) := by decide +kernel
set_option maxRecDepth 20000 in
theorem dX6_readFiles_53 : decode cX6_readFiles 53 = .ok (.invokevirtual 54, 3) := by decide +kernel
set_option maxRecDepth 20000 in
theorem dX6_readFiles_56 : decode cX6_readFiles 56 = .ok (.istore 6, 2) := by decide +kernel
set_option maxRecDepth 20000 in
theorem dX6_readFiles_58 : decode cX6_readFiles 58 = .ok (.aload_n 2, 1) := by decide +kernel
set_option maxRecDepth 20000 in
theorem dX6_readFiles_59 : decode cX6_readFiles 59 = .ok (.iconst 1, 1) := by decide +kernel
set_option maxRecDepth 20000 in
theorem dX6_readFiles_60 : decode cX6_readFiles 60 = .ok (.iconst 2, 1) := by decide +kernel
set_option maxRecDepth 20000 in
theorem dX6_readFiles_61 : decode cX6_readFiles 61 = .ok (.iload 6, 2) := by decide +kernel
set_option maxRecDepth 20000 in
theorem dX6_readFiles_63 : decode cX6_readFiles 63 = .ok (.imul, 1) := by decide +kernel
set_option maxRecDepth 20000 in
theorem dX6_readFiles_64 : decode cX6_readFiles 64 = .ok (.iadd, 1) := by decide +kernel
set_option maxRecDepth 20000 in
theorem dX6_readFiles_65 : decode cX6_readFiles 65 = .ok (.invokevirtual 40, 3) := by decide +kernel
set_option maxRecDepth 20000 in
theorem dX6_readFiles_68 : decode cX6_readFiles 68 = .ok (.aload_n 2, 1) := by decide +kernel
set_option maxRecDepth 20000 in
theorem dX6_readFiles_69 : decode cX6_readFiles 69 = .ok (.bipush 6, 2) := by decide +kernel
set_option maxRecDepth 20000 in
theorem dX6_readFiles_71 : decode cX6_readFiles 71 = .ok (.invokevirtual 40, 3) := by decide +kernel
set_option maxRecDepth 20000 in
theorem dX6_readFiles_74 : decode cX6_readFiles 74 = .ok (.iconst 0, 1) := by decide +kernel
set_option maxRecDepth 20000 in
theorem dX6_readFiles_75 : decode cX6_readFiles 75 = .ok (.istore 7, 2) := by decide +kernel
set_option maxRecDepth 20000 in
theorem dX6_readFiles_77 : decode cX6_readFiles 77 = .ok (.iload 7, 2) := by decide +kernel
set_option maxRecDepth 20000 in
theorem dX6_readFiles_79 : decode cX6_readFiles 79 = .ok (.iload 6, 2) := by decide +kernel
set_option maxRecDepth 20000 in
theorem dX6_readFiles_81 : decode cX6_readFiles 81 = .ok (.if_icmp .ge 28, 3) := by decide +kernel
set_option maxRecDepth 20000 in
theorem dX6_readFiles_84 : decode cX6_readFiles 84 = .ok (.aload 4, 2) := by decide +kernel
set_option maxRecDepth 20000 in
theorem dX6_readFiles_86 : decode cX6_readFiles 86 = .ok (.ifnull 23, 3) := by decide +kernel
set_option maxRecDepth 20000 in
theorem dX6_readFiles_89 : decode cX6_readFiles 89 = .ok (.aload_n 2, 1) := by decide +kernel
set_option maxRecDepth 20000 in
theorem dX6_readFiles_90 : decode cX6_readFiles 90 = .ok (.aload 4, 2) := by decide +kernel
set_option maxRecDepth 20000 in
theorem dX6_readFiles_92 : decode cX6_readFiles 92 = .ok (.iload 5, 2) := by decide +kernel
set_option maxRecDepth 20000 in
theorem dX6_readFiles_94 : decode cX6_readFiles 94 = .ok (.iload 7, 2) := by decide +kernel
set_option maxRecDepth 20000 in
theorem dX6_readFiles_96 : decode cX6_readFiles 96 = .ok (.iadd, 1) := by decide +kernel
set_option maxRecDepth 20000 in
theorem dX6_readFiles_97 : decode cX6_readFiles 97 = .ok (.invokevirtual 36, 3) := by decide +kernel
set_option maxRecDepth 20000 in
theorem dX6_readFiles_100 : decode cX6_readFiles 100 = .ok (.invokevirtual 160, 3) := by decide +kernel
set_option maxRecDepth 20000 in
theorem dX6_readFiles_103 : decode cX6_readFiles 103 = .ok (.iinc 7 1, 3) := by decide +kernel
set_option maxRecDepth 20000 in
theorem dX6_readFiles_106 : decode cX6_readFiles 106 = .ok (.goto (-29), 3) := by decide +kernel
set_option maxRecDepth 20000 in
theorem dX6_readFiles_109 : decode cX6_readFiles 109 = .ok (.iinc 3 7, 3) := by decide +kernel
set_option maxRecDepth 20000 in
theorem dX6_readFiles_112 : decode cX6_readFiles 112 = .ok (.goto (-99), 3) := by decide +kernel
set_option maxRecDepth 20000 in
theorem dX6_readFiles_115 : decode cX6_readFiles 115 = .ok (.aload_n 2, 1) := by decide +kernel
set_option maxRecDepth 20000 in
theorem dX6_readFiles_116 : decode cX6_readFiles 116 = .ok (.iconst 1, 1) := by decide +kernel
set_option maxRecDepth 20000 in
theorem dX6_readFiles_117 : decode cX6_readFiles 117 = .ok (.aload_n 2, 1) := by decide +kernel
set_option maxRecDepth 20000 in
theorem dX6_readFiles_118 : decode cX6_readFiles 118 = .ok (.getfield 104, 3) := by decide +kernel
set_option maxRecDepth 20000 in
theorem dX6_readFiles_121 : decode cX6_readFiles 121 = .ok (.iconst 2, 1) := by decide +kernel
set_option maxRecDepth 20000 in
theorem dX6_readFiles_122 : decode cX6_readFiles 122 = .ok (.isub, 1) := by decide +kernel
set_option maxRecDepth 20000 in
theorem dX6_readFiles_123 : decode cX6_readFiles 123 = .ok (.invokevirtual 208, 3) := by decide +kernel
set_option maxRecDepth 20000 in
theorem dX6_readFiles_126 : decode cX6_readFiles 126 = .ok (.return_, 1) := by decide +kernel
set_option maxRecDepth 20000 in
theorem dX6_writeFiles_0 : decode cX6_writeFiles 0 = .ok (.iconst 2, 1) := by decide +kernel
set_option maxRecDepth 20000 in
theorem dX6_writeFiles_1 : decode cX6_writeFiles 1 = .ok (.istore_n 2, 1) := by decide +kernel
set_option maxRecDepth 20000 in
theorem dX6_writeFiles_2 : decode cX6_writeFiles 2 = .ok (.iconst 0, 1) := by decide +kernel
set_option maxRecDepth 20000 in
theorem dX6_writeFiles_3 : decode cX6_writeFiles 3 = .ok (.istore_n 3, 1) := by decide +kernel
set_option maxRecDepth 20000 in
theorem dX6_writeFiles_4 : decode cX6_writeFiles 4 = .ok (.iload_n 3, 1) := by decide +kernel
set_option maxRecDepth 20000 in
theorem dX6_writeFiles_5 : decode cX6_writeFiles 5 = .ok (.bipush 36, 2) := by decide +kernel
set_option maxRecDepth 20000 in
theorem dX6_writeFiles_7 : decode cX6_writeFiles 7 = .ok (.if_icmp .ge 102, 3) := by decide +kernel
set_option maxRecDepth 20000 in
theorem dX6_writeFiles_10 : decode cX6_writeFiles 10 = .ok (.iload_n 2, 1) := by decide +kernel
set_option maxRecDepth 20000 in
theorem dX6_writeFiles_11 : decode cX6_writeFiles 11 = .ok (.aload_n 1, 1) := by decide +kernel
set_option maxRecDepth 20000 in
theorem dX6_writeFiles_12 : decode cX6_writeFiles 12 = .ok (.getfield 104, 3) := by decide +kernel
set_option maxRecDepth 20000 in
theorem dX6_writeFiles_15 : decode cX6_writeFiles 15 = .ok (.if_icmp .ge 94, 3) := by decide +kernel
set_option maxRecDepth 20000 in
theorem dX6_writeFiles_18 : decode cX6_writeFiles 18 = .ok (.aload_n 0, 1) := by decide +kernel
set_option maxRecDepth 20000 in
theorem dX6_writeFiles_19 : decode cX6_writeFiles 19 = .ok (.getfield 107, 3) := by decide +kernel
set_option maxRecDepth 20000 in
theorem dX6_writeFiles_22 : decode cX6_writeFiles 22 = .ok (.aload_n 1, 1) := by decide +kernel
set_option maxRecDepth 20000 in
theorem dX6_writeFiles_23 : decode cX6_writeFiles 23 = .ok (.iload_n 2, 1) := by decide +kernel
set_option maxRecDepth 20000 in
theorem dX6_writeFiles_24 : decode cX6_writeFiles 24 = .ok (.iconst 1, 1) := by decide +kernel
set_option maxRecDepth 20000 in
theorem dX6_writeFiles_25 : decode cX6_writeFiles 25 = .ok (.iadd, 1) := by decide +kernel
set_option maxRecDepth 20000 in
theorem dX6_writeFiles_26 : decode cX6_writeFiles 26 = .ok (.invokevirtual 54, 3) := by decide +kernel
set_option maxRecDepth 20000 in
theorem dX6_writeFiles_29 : decode cX6_writeFiles 29 = .ok (.invokevirtual 98, 3) := by decide +kernel
set_option maxRecDepth 20000 in
theorem dX6_writeFiles_32 : decode cX6_writeFiles 32 = .ok (.astore 4, 2) := by decide +kernel
set_option maxRecDepth 20000 in
theorem dX6_writeFiles_34 : decode cX6_writeFiles 34 = .ok (.aload_n 1, 1) := by decide +kernel
set_option maxRecDepth 20000 in
theorem dX6_writeFiles_35 : decode cX6_writeFiles 35 = .ok (.iload_n 2, 1) := by decide +kernel
set_option maxRecDepth 20000 in
theorem dX6_writeFiles_36 : decode cX6_writeFiles 36 = .ok (.iconst 3, 1) := by decide +kernel
set_option maxRecDepth 20000 in
theorem dX6_writeFiles_37 : decode cX6_writeFiles 37 = .ok (.iadd, 1) := by decide +kernel
set_option maxRecDepth 20000 in
theorem dX6_writeFiles_38 : decode cX6_writeFiles 38 = .ok (.invokevirtual 54, 3) := by decide +kernel
set_option maxRecDepth 20000 in
theorem dX6_writeFiles_41 : decode cX6_writeFiles 41 = .ok (.istore 5, 2) := by decide +kernel
set_option maxRecDepth 20000 in
theorem dX6_writeFiles_43 : decode cX6_writeFiles 43 = .ok (.aload_n 1, 1) := by decide +kernel
set_option maxRecDepth 20000 in
theorem dX6_writeFiles_44 : decode cX6_writeFiles 44 = .ok (.iload_n 2, 1) := by decide +kernel
set_option maxRecDepth 20000 in
theorem dX6_writeFiles_45 : decode cX6_writeFiles 45 = .ok (.iconst 5, 1) := by decide +kernel
set_option maxRecDepth 20000 in
theorem dX6_writeFiles_46 : decode cX6_writeFiles 46 = .ok (.iadd, 1) := by decide +kernel
set_option maxRecDepth 20000 in
theorem dX6_writeFiles_47 : decode cX6_writeFiles 47 = .ok (.invokevirtual 54, 3) := by decide +kernel
set_option maxRecDepth 20000 in
theorem dX6_writeFiles_50 : decode cX6_writeFiles 50 = .ok (.istore 6, 2) := by decide +kernel
set_option maxRecDepth 20000 in
theorem dX6_writeFiles_52 : decode cX6_writeFiles 52 = .ok (.iinc 2 7, 3) := by decide +kernel
set_option maxRecDepth 20000 in
theorem dX6_writeFiles_55 : decode cX6_writeFiles 55 = .ok (.iconst 0, 1) := by decide +kernel
set_option maxRecDepth 20000 in
theorem dX6_writeFiles_56 : decode cX6_writeFiles 56 = .ok (.istore 7, 2) := by decide +kernel
set_option maxRecDepth 20000 in
theorem dX6_writeFiles_58 : decode cX6_writeFiles 58 = .ok (.iload 7, 2) := by decide +kernel
set_option maxRecDepth 20000 in
theorem dX6_writeFiles_60 : decode cX6_writeFiles 60 = .ok (.iload 6, 2) := by decide +kernel
set_option maxRecDepth 20000 in
theorem dX6_writeFiles_62 : decode cX6_writeFiles 62 = .ok (.if_icmp .ge 34, 3) := by decide +kernel
set_option maxRecDepth 20000 in
theorem dX6_writeFiles_65 : decode cX6_writeFiles 65 = .ok (.aload 4, 2) := by decide +kernel
set_option maxRecDepth 20000 in
theorem dX6_writeFiles_67 : decode cX6_writeFiles 67 = .ok (.ifnull 29, 3) := by decide +kernel
set_option maxRecDepth 20000 in
theorem dX6_writeFiles_70 : decode cX6_writeFiles 70 = .ok (.aload 4, 2) := by decide +kernel
set_option maxRecDepth 20000 in
theorem dX6_writeFiles_72 : decode cX6_writeFiles 72 = .ok (.iload 5, 2) := by decide +kernel
set_option maxRecDepth 20000 in
theorem dX6_writeFiles_74 : decode cX6_writeFiles 74 = .ok (.iload 7, 2) := by decide +kernel
set_option maxRecDepth 20000 in
theorem dX6_writeFiles_76 : decode cX6_writeFiles 76 = .ok (.iadd, 1) := by decide +kernel
set_option maxRecDepth 20000 in
theorem dX6_writeFiles_77 : decode cX6_writeFiles 77 = .ok (.aload_n 1, 1) := by decide +kernel
set_option maxRecDepth 20000 in
theorem dX6_writeFiles_78 : decode cX6_writeFiles 78 = .ok (.iload_n 2, 1) := by decide +kernel
set_option maxRecDepth 20000 in
theorem dX6_writeFiles_79 : decode cX6_writeFiles 79 = .ok (.iconst 2, 1) := by decide +kernel
set_option maxRecDepth 20000 in
theorem dX6_writeFiles_80 : decode cX6_writeFiles 80 = .ok (.iload 7, 2) := by decide +kernel
set_option maxRecDepth 20000 in
theorem dX6_writeFiles_82 : decode cX6_writeFiles 82 = .ok (.imul, 1) := by decide +kernel
set_option maxRecDepth 20000 in
theorem dX6_writeFiles_83 : decode cX6_writeFiles 83 = .ok (.iadd, 1) := by decide +kernel
set_option maxRecDepth 20000 in
theorem dX6_writeFiles_84 : decode cX6_writeFiles 84 = .ok (.invokevirtual 54, 3) := by decide +kernel
set_option maxRecDepth 20000 in
theorem dX6_writeFiles_87 : decode cX6_writeFiles 87 = .ok (.invokevirtual 208, 3) := by decide +kernel
set_option maxRecDepth 20000 in
theorem dX6_writeFiles_90 : decode cX6_writeFiles 90 = .ok (.iinc 7 1, 3) := by decide +kernel
set_option maxRecDepth 20000 in
theorem dX6_writeFiles_93 : decode cX6_writeFiles 93 = .ok (.goto (-35), 3) := by decide +kernel
set_option maxRecDepth 20000 in
theorem dX6_writeFiles_96 : decode cX6_writeFiles 96 = .ok (.iload_n 2, 1) := by decide +kernel
set_option maxRecDepth 20000 in
theorem dX6_writeFiles_97 : decode cX6_writeFiles 97 = .ok (.iconst 2, 1) := by decide +kernel
set_option maxRecDepth 20000 in
theorem dX6_writeFiles_98 : decode cX6_writeFiles 98 = .ok (.iload 6, 2) := by decide +kernel
set_option maxRecDepth 20000 in
theorem dX6_writeFiles_100 : decode cX6_writeFiles 100 = .ok (.imul, 1) := by decide +kernel
set_option maxRecDepth 20000 in
theorem dX6_writeFiles_101 : decode cX6_writeFiles 101 = .ok (.iadd, 1) := by decide +kernel
set_option maxRecDepth 20000 in
theorem dX6_writeFiles_102 : decode cX6_writeFiles 102 = .ok (.istore_n 2, 1) := by decide +kernel
set_option maxRecDepth 20000 in
theorem dX6_writeFiles_103 : decode cX6_writeFiles 103 = .ok (.iinc 3 1, 3) := by decide +kernel
set_option maxRecDepth 20000 in
theorem dX6_writeFiles_106 : decode cX6_writeFiles 106 = .ok (.goto (-102), 3) := by decide +kernel
set_option maxRecDepth 20000 in
theorem dX6_writeFiles_109 : decode cX6_writeFiles 109 = .ok (.return_, 1) := by decide +kernel
set_option maxRecDepth 20000 in
theorem dX6_tellQueue_0 : decode cX6_tellQueue 0 = .ok (.aload_n 0, 1) := by decide +kernel
set_option maxRecDepth 20000 in
theorem dX6_tellQueue_1 : decode cX6_tellQueue 1 = .ok (.ifnonnull 4, 3) := by decide +kernel
set_option maxRecDepth 20000 in
theorem dX6_tellQueue_4 : decode cX6_tellQueue 4 = .ok (.return_, 1) := by decide +kernel
set_option maxRecDepth 20000 in
theorem dX6_tellQueue_5 : decode cX6_tellQueue 5 = .ok (.aload_n 1, 1) := by decide +kernel
set_option maxRecDepth 20000 in
theorem dX6_tellQueue_6 : decode cX6_tellQueue 6 = .ok (.bipush 24, 2) := by decide +kernel
set_option maxRecDepth 20000 in
theorem dX6_tellQueue_8 : decode cX6_tellQueue 8 = .ok (.invokevirtual 40, 3) := by decide +kernel
set_option maxRecDepth 20000 in
theorem dX6_tellQueue_11 : decode cX6_tellQueue 11 = .ok (.aload_n 1, 1) := by decide +kernel
set_option maxRecDepth 20000 in
theorem dX6_tellQueue_12 : decode cX6_tellQueue 12 = .ok (.iconst 2, 1) := by decide +kernel
set_option maxRecDepth 20000 in
theorem dX6_tellQueue_13 : decode cX6_tellQueue 13 = .ok (.iconst 2, 1) := by decide +kernel
set_option maxRecDepth 20000 in
theorem dX6_tellQueue_14 : decode cX6_tellQueue 14 = .ok (.aload_n 0, 1) := by decide +kernel
set_option maxRecDepth 20000 in
theorem dX6_tellQueue_15 : decode cX6_tellQueue 15 = .ok (.getfield 104, 3) := by decide +kernel
set_option maxRecDepth 20000 in
theorem dX6_tellQueue_18 : decode cX6_tellQueue 18 = .ok (.imul, 1) := by decide +kernel
set_option maxRecDepth 20000 in
theorem dX6_tellQueue_19 : decode cX6_tellQueue 19 = .ok (.iadd, 1) := by decide +kernel
set_option maxRecDepth 20000 in
theorem dX6_tellQueue_20 : decode cX6_tellQueue 20 = .ok (.invokevirtual 160, 3) := by decide +kernel
set_option maxRecDepth 20000 in
theorem dX6_tellQueue_23 : decode cX6_tellQueue 23 = .ok (.aload_n 1, 1) := by decide +kernel
set_option maxRecDepth 20000 in
theorem dX6_tellQueue_24 : decode cX6_tellQueue 24 = .ok (.aload_n 0, 1) := by decide +kernel
set_option maxRecDepth 20000 in
theorem dX6_tellQueue_25 : decode cX6_tellQueue 25 = .ok (.getfield 104, 3) := by decide +kernel
set_option maxRecDepth 20000 in
theorem dX6_tellQueue_28 : decode cX6_tellQueue 28 = .ok (.invokevirtual 160, 3) := by decide +kernel
set_option maxRecDepth 20000 in
theorem dX6_tellQueue_31 : decode cX6_tellQueue 31 = .ok (.iconst 0, 1) := by decide +kernel
set_option maxRecDepth 20000 in
theorem dX6_tellQueue_32 : decode cX6_tellQueue 32 = .ok (.istore_n 2, 1) := by decide +kernel
set_option maxRecDepth 20000 in
theorem dX6_tellQueue_33 : decode cX6_tellQueue 33 = .ok (.iload_n 2, 1) := by decide +kernel
set_option maxRecDepth 20000 in
theorem dX6_tellQueue_34 : decode cX6_tellQueue 34 = .ok (.aload_n 0, 1) := by decide +kernel
set_option maxRecDepth 20000 in
theorem dX6_tellQueue_35 : decode cX6_tellQueue 35 = .ok (.getfield 104, 3) := by decide +kernel
set_option maxRecDepth 20000 in
theorem dX6_tellQueue_38 : decode cX6_tellQueue 38 = .ok (.if_icmp .ge 18, 3) := by decide +kernel
set_option maxRecDepth 20000 in
theorem dX6_tellQueue_41 : decode cX6_tellQueue 41 = .ok (.aload_n 1, 1) := by decide +kernel
set_option maxRecDepth 20000 in
theorem dX6_tellQueue_42 : decode cX6_tellQueue 42 = .ok (.aload_n 0, 1) := by decide +kernel
set_option maxRecDepth 20000 in
theorem dX6_tellQueue_43 : decode cX6_tellQueue 43 = .ok (.iload_n 2, 1) := by decide +kernel
set_option maxRecDepth 20000 in
theorem dX6_tellQueue_44 : decode cX6_tellQueue 44 = .ok (.invokevirtual 36, 3) := by decide +kernel
set_option maxRecDepth 20000 in
theorem dX6_tellQueue_47 : decode cX6_tellQueue 47 = .ok (.invokevirtual 160, 3) := by decide +kernel
set_option maxRecDepth 20000 in
theorem dX6_tellQueue_50 : decode cX6_tellQueue 50 = .ok (.iinc 2 1, 3) := by decide +kernel
set_option maxRecDepth 20000 in
theorem dX6_tellQueue_53 : decode cX6_tellQueue 53 = .ok (.goto (-20), 3) := by decide +kernel
set_option maxRecDepth 20000 in
theorem dX6_tellQueue_56 : decode cX6_tellQueue 56 = .ok (.return_, 1) := by decide +kernel
set_option maxRecDepth 20000 in
theorem dX6_tellTexts_0 : decode cX6_tellTexts 0 = .ok (.aload_n 1, 1) := by decide +kernel
set_option maxRecDepth 20000 in
theorem dX6_tellTexts_1 : decode cX6_tellTexts 1 = .ok (.iconst 2, 1) := by decide +kernel
set_option maxRecDepth 20000 in
theorem dX6_tellTexts_2 : decode cX6_tellTexts 2 = .ok (.invokevirtual 36, 3) := by decide +kernel
set_option maxRecDepth 20000 in
theorem dX6_tellTexts_5 : decode cX6_tellTexts 5 = .ok (.istore_n 3, 1) := by decide +kernel
set_option maxRecDepth 20000 in
theorem dX6_tellTexts_6 : decode cX6_tellTexts 6 = .ok (.iload_n 3, 1) := by decide +kernel
set_option maxRecDepth 20000 in
theorem dX6_tellTexts_7 : decode cX6_tellTexts 7 = .ok (.iconst 1, 1) := by decide +kernel
set_option maxRecDepth 20000 in
theorem dX6_tellTexts_8 : decode cX6_tellTexts 8 = .ok (.if_icmp .ne 7, 3) := by decide +kernel
set_option maxRecDepth 20000 in
theorem dX6_tellTexts_11 : decode cX6_tellTexts 11 = .ok (.iconst 2, 1) := by decide +kernel
set_option maxRecDepth 20000 in
theorem dX6_tellTexts_12 : decode cX6_tellTexts 12 = .ok (.goto 16, 3) := by decide +kernel
set_option maxRecDepth 20000 in
theorem dX6_tellTexts_15 : decode cX6_tellTexts 15 = .ok (.iload_n 3, 1) := by decide +kernel
set_option maxRecDepth 20000 in
theorem dX6_tellTexts_16 : decode cX6_tellTexts 16 = .ok (.iconst 2, 1) := by decide +kernel
set_option maxRecDepth 20000 in
theorem dX6_tellTexts_17 : decode cX6_tellTexts 17 = .ok (.if_icmp .ne 8, 3) := by decide +kernel
set_option maxRecDepth 20000 in
theorem dX6_tellTexts_20 : decode cX6_tellTexts 20 = .ok (.bipush 6, 2) := by decide +kernel
set_option maxRecDepth 20000 in
theorem dX6_tellTexts_22 : decode cX6_tellTexts 22 = .ok (.goto 6, 3) := by decide +kernel
set_option maxRecDepth 20000 in
theorem dX6_tellTexts_25 : decode cX6_tellTexts 25 = .ok (.sipush 255, 3) := by decide +kernel
set_option maxRecDepth 20000 in
theorem dX6_tellTexts_28 : decode cX6_tellTexts 28 = .ok (.istore 4, 2) := by decide +kernel
set_option maxRecDepth 20000 in
theorem dX6_tellTexts_30 : decode cX6_tellTexts 30 = .ok (.aload_n 1, 1) := by decide +kernel
set_option maxRecDepth 20000 in
theorem dX6_tellTexts_31 : decode cX6_tellTexts 31 = .ok (.iconst 3, 1) := by decide +kernel
set_option maxRecDepth 20000 in
theorem dX6_tellTexts_32 : decode cX6_tellTexts 32 = .ok (.invokevirtual 36, 3) := by decide +kernel
set_option maxRecDepth 20000 in
theorem dX6_tellTexts_35 : decode cX6_tellTexts 35 = .ok (.istore 5, 2) := by decide +kernel
set_option maxRecDepth 20000 in
theorem dX6_tellTexts_37 : decode cX6_tellTexts 37 = .ok (.iload 5, 2) := by decide +kernel
set_option maxRecDepth 20000 in
theorem dX6_tellTexts_39 : decode cX6_tellTexts 39 = .ok (.iload 4, 2) := by decide +kernel
set_option maxRecDepth 20000 in
theorem dX6_tellTexts_41 : decode cX6_tellTexts 41 = .ok (.if_icmp .gt 12, 3) := by decide +kernel
set_option maxRecDepth 20000 in
theorem dX6_tellTexts_44 : decode cX6_tellTexts 44 = .ok (.aload_n 0, 1) := by decide +kernel
set_option maxRecDepth 20000 in
theorem dX6_tellTexts_45 : decode cX6_tellTexts 45 = .ok (.iload 5, 2) := by decide +kernel
set_option maxRecDepth 20000 in
theorem dX6_tellTexts_47 : decode cX6_tellTexts 47 = .ok (.invokevirtual 98, 3) := by decide +kernel
set_option maxRecDepth 20000 in
theorem dX6_tellTexts_50 : decode cX6_tellTexts 50 = .ok (.ifnonnull 12, 3) := by decide +kernel
set_option maxRecDepth 20000 in
theorem dX6_tellTexts_53 : decode cX6_tellTexts 53 = .ok (.aload_n 0, 1) := by decide +kernel
set_option maxRecDepth 20000 in
theorem dX6_tellTexts_54 : decode cX6_tellTexts 54 = .ok (.iconst 0, 1) := by decide +kernel
set_option maxRecDepth 20000 in
theorem dX6_tellTexts_55 : decode cX6_tellTexts 55 = .ok (.iload 4, 2) := by decide +kernel
set_option maxRecDepth 20000 in
theorem dX6_tellTexts_57 : decode cX6_tellTexts 57 = .ok (.invokevirtual 211, 3) := by decide +kernel
set_option maxRecDepth 20000 in
theorem dX6_tellTexts_60 : decode cX6_tellTexts 60 = .ok (.istore 5, 2) := by decide +kernel
set_option maxRecDepth 20000 in
theorem dX6_tellTexts_62 : decode cX6_tellTexts 62 = .ok (.aload_n 2, 1) := by decide +kernel
set_option maxRecDepth 20000 in
theorem dX6_tellTexts_63 : decode cX6_tellTexts 63 = .ok (.aload_n 1, 1) := by decide +kernel
set_option maxRecDepth 20000 in
theorem dX6_tellTexts_64 : decode cX6_tellTexts 64 = .ok (.iconst 0, 1) := by decide +kernel
set_option maxRecDepth 20000 in
theorem dX6_tellTexts_65 : decode cX6_tellTexts 65 = .ok (.iconst 3, 1) := by decide +kernel
set_option maxRecDepth 20000 in
theorem dX6_tellTexts_66 : decode cX6_tellTexts 66 = .ok (.invokevirtual 134, 3) := by decide +kernel
set_option maxRecDepth 20000 in
theorem dX6_tellTexts_69 : decode cX6_tellTexts 69 = .ok (.aload_n 0, 1) := by decide +kernel
set_option maxRecDepth 20000 in
theorem dX6_tellTexts_70 : decode cX6_tellTexts 70 = .ok (.invokevirtual 214, 3) := by decide +kernel
set_option maxRecDepth 20000 in
theorem dX6_tellTexts_73 : decode cX6_tellTexts 73 = .ok (.istore 6, 2) := by decide +kernel
set_option maxRecDepth 20000 in
theorem dX6_tellTexts_75 : decode cX6_tellTexts 75 = .ok (.aload_n 2, 1) := by decide +kernel
set_option maxRecDepth 20000 in
theorem dX6_tellTexts_76 : decode cX6_tellTexts 76 = .ok (.iload 6, 2) := by decide +kernel
set_option maxRecDepth 20000 in
theorem dX6_tellTexts_78 : decode cX6_tellTexts 78 = .ok (.bipush 6, 2) := by decide +kernel
set_option maxRecDepth 20000 in
theorem dX6_tellTexts_80 : decode cX6_tellTexts 80 = .ok (.if_icmp .le 9, 3) := by decide +kernel
set_option maxRecDepth 20000 in
theorem dX6_tellTexts_83 : decode cX6_tellTexts 83 = .ok (.sipush 131, 3) := by decide +kernel
set_option maxRecDepth 20000 in
theorem dX6_tellTexts_86 : decode cX6_tellTexts 86 = .ok (.goto 18, 3) := by decide +kernel
set_option maxRecDepth 20000 in
theorem dX6_tellTexts_89 : decode cX6_tellTexts 89 = .ok (.iload 6, 2) := by decide +kernel
set_option maxRecDepth 20000 in
theorem dX6_tellTexts_91 : decode cX6_tellTexts 91 = .ok (.iconst 2, 1) := by decide +kernel
set_option maxRecDepth 20000 in
theorem dX6_tellTexts_92 : decode cX6_tellTexts 92 = .ok (.if_icmp .le 9, 3) := by decide +kernel
set_option maxRecDepth 20000 in
theorem dX6_tellTexts_95 : decode cX6_tellTexts 95 = .ok (.sipush 130, 3) := by decide +kernel
set_option maxRecDepth 20000 in
theorem dX6_tellTexts_98 : decode cX6_tellTexts 98 = .ok (.goto 6, 3) := by decide +kernel
set_option maxRecDepth 20000 in
theorem dX6_tellTexts_101 : decode cX6_tellTexts 101 = .ok (.sipush 129, 3) := by decide +kernel
set_option maxRecDepth 20000 in
theorem dX6_tellTexts_104 : decode cX6_tellTexts 104 = .ok (.invokevirtual 40, 3) := by decide +kernel
set_option maxRecDepth 20000 in
theorem dX6_tellTexts_107 : decode cX6_tellTexts 107 = .ok (.aload_n 2, 1) := by decide +kernel
set_option maxRecDepth 20000 in
theorem dX6_tellTexts_108 : decode cX6_tellTexts 108 = .ok (.iconst 0, 1) := by decide +kernel
set_option maxRecDepth 20000 in
theorem dX6_tellTexts_109 : decode cX6_tellTexts 109 = .ok (.invokevirtual 40, 3) := by decide +kernel
set_option maxRecDepth 20000 in
theorem dX6_tellTexts_112 : decode cX6_tellTexts 112 = .ok (.aload_n 2, 1) := by decide +kernel
set_option maxRecDepth 20000 in
theorem dX6_tellTexts_113 : decode cX6_tellTexts 113 = .ok (.iconst 0, 1) := by decide +kernel
set_option maxRecDepth 20000 in
theorem dX6_tellTexts_114 : decode cX6_tellTexts 114 = .ok (.invokevirtual 40, 3) := by decide +kernel
set_option maxRecDepth 20000 in
theorem dX6_tellTexts_117 : decode cX6_tellTexts 117 = .ok (.aload_n 2, 1) := by decide +kernel
set_option maxRecDepth 20000 in
theorem dX6_tellTexts_118 : decode cX6_tellTexts 118 = .ok (.iconst 0, 1) := by decide +kernel
set_option maxRecDepth 20000 in
theorem dX6_tellTexts_119 : decode cX6_tellTexts 119 = .ok (.invokevirtual 40, 3) := by decide +kernel
set_option maxRecDepth 20000 in
theorem dX6_tellTexts_122 : decode cX6_tellTexts 122 = .ok (.iconst 0, 1) := by decide +kernel
set_option maxRecDepth 20000 in
theorem dX6_tellTexts_123 : decode cX6_tellTexts 123 = .ok (.istore 7, 2) := by decide +kernel
set_option maxRecDepth 20000 in
theorem dX6_tellTexts_125 : decode cX6_tellTexts 125 = .ok (.iconst 0, 1) := by decide +kernel
set_option maxRecDepth 20000 in
theorem dX6_tellTexts_126 : decode cX6_tellTexts 126 = .ok (.istore 8, 2) := by decide +kernel
set_option maxRecDepth 20000 in
theorem dX6_tellTexts_128 : decode cX6_tellTexts 128 = .ok (.iload 8, 2) := by decide +kernel
set_option maxRecDepth 20000 in
theorem dX6_tellTexts_130 : decode cX6_tellTexts 130 = .ok (.bipush 10, 2) := by decide +kernel
set_option maxRecDepth 20000 in
theorem dX6_tellTexts_132 : decode cX6_tellTexts 132 = .ok (.if_icmp .ge 100, 3) := by decide +kernel
set_option maxRecDepth 20000 in
theorem dX6_tellTexts_135 : decode cX6_tellTexts 135 = .ok (.iload 5, 2) := by decide +kernel
set_option maxRecDepth 20000 in
theorem dX6_tellTexts_137 : decode cX6_tellTexts 137 = .ok (.iconst (-1), 1) := by decide +kernel
set_option maxRecDepth 20000 in
theorem dX6_tellTexts_138 : decode cX6_tellTexts 138 = .ok (.if_icmp .eq 94, 3) := by decide +kernel
set_option maxRecDepth 20000 in
theorem dX6_tellTexts_141 : decode cX6_tellTexts 141 = .ok (.aload_n 0, 1) := by decide +kernel
set_option maxRecDepth 20000 in
theorem dX6_tellTexts_142 : decode cX6_tellTexts 142 = .ok (.iload 5, 2) := by decide +kernel
set_option maxRecDepth 20000 in
theorem dX6_tellTexts_144 : decode cX6_tellTexts 144 = .ok (.invokevirtual 98, 3) := by decide +kernel
set_option maxRecDepth 20000 in
theorem dX6_tellTexts_147 : decode cX6_tellTexts 147 = .ok (.astore 9, 2) := by decide +kernel
set_option maxRecDepth 20000 in
theorem dX6_tellTexts_149 : decode cX6_tellTexts 149 = .ok (.aload 9, 2) := by decide +kernel
set_option maxRecDepth 20000 in
theorem dX6_tellTexts_151 : decode cX6_tellTexts 151 = .ok (.ifnull 81, 3) := by decide +kernel
set_option maxRecDepth 20000 in
theorem dX6_tellTexts_154 : decode cX6_tellTexts 154 = .ok (.aload_n 2, 1) := by decide +kernel
set_option maxRecDepth 20000 in
theorem dX6_tellTexts_155 : decode cX6_tellTexts 155 = .ok (.getfield 104, 3) := by decide +kernel
set_option maxRecDepth 20000 in
theorem dX6_tellTexts_158 : decode cX6_tellTexts 158 = .ok (.iconst 2, 1) := by decide +kernel
set_option maxRecDepth 20000 in
theorem dX6_tellTexts_159 : decode cX6_tellTexts 159 = .ok (.iadd, 1) := by decide +kernel
set_option maxRecDepth 20000 in
theorem dX6_tellTexts_160 : decode cX6_tellTexts 160 = .ok (.aload 9, 2) := by decide +kernel
set_option maxRecDepth 20000 in
theorem dX6_tellTexts_162 : decode cX6_tellTexts 162 = .ok (.getfield 104, 3) := by decide +kernel
set_option maxRecDepth 20000 in
theorem dX6_tellTexts_165 : decode cX6_tellTexts 165 = .ok (.iadd, 1) := by decide +kernel
set_option maxRecDepth 20000 in
theorem dX6_tellTexts_166 : decode cX6_tellTexts 166 = .ok (.sipush 253, 3) := by decide +kernel
set_option maxRecDepth 20000 in
theorem dX6_tellTexts_169 : decode cX6_tellTexts 169 = .ok (.if_icmp .le 6, 3) := by decide +kernel
set_option maxRecDepth 20000 in
theorem dX6_tellTexts_172 : decode cX6_tellTexts 172 = .ok (.goto 60, 3) := by decide +kernel
set_option maxRecDepth 20000 in
theorem dX6_tellTexts_175 : decode cX6_tellTexts 175 = .ok (.aload_n 2, 1) := by decide +kernel
set_option maxRecDepth 20000 in
theorem dX6_tellTexts_176 : decode cX6_tellTexts 176 = .ok (.iload 5, 2) := by decide +kernel
set_option maxRecDepth 20000 in
theorem dX6_tellTexts_178 : decode cX6_tellTexts 178 = .ok (.invokevirtual 40, 3) := by decide +kernel
set_option maxRecDepth 20000 in
theorem dX6_tellTexts_181 : decode cX6_tellTexts 181 = .ok (.aload_n 2, 1) := by decide +kernel
set_option maxRecDepth 20000 in
theorem dX6_tellTexts_182 : decode cX6_tellTexts 182 = .ok (.aload 9, 2) := by decide +kernel
set_option maxRecDepth 20000 in
theorem dX6_tellTexts_184 : decode cX6_tellTexts 184 = .ok (.getfield 104, 3) := by decide +kernel
set_option maxRecDepth 20000 in
theorem dX6_tellTexts_187 : decode cX6_tellTexts 187 = .ok (.invokevirtual 40, 3) := by decide +kernel
set_option maxRecDepth 20000 in
theorem dX6_tellTexts_190 : decode cX6_tellTexts 190 = .ok (.aload_n 2, 1) := by decide +kernel
set_option maxRecDepth 20000 in
theorem dX6_tellTexts_191 : decode cX6_tellTexts 191 = .ok (.aload 9, 2) := by decide +kernel
set_option maxRecDepth 20000 in
theorem dX6_tellTexts_193 : decode cX6_tellTexts 193 = .ok (.iconst 0, 1) := by decide +kernel
set_option maxRecDepth 20000 in
theorem dX6_tellTexts_194 : decode cX6_tellTexts 194 = .ok (.aload 9, 2) := by decide +kernel
set_option maxRecDepth 20000 in
theorem dX6_tellTexts_196 : decode cX6_tellTexts 196 = .ok (.getfield 104, 3) := by decide +kernel
set_option maxRecDepth 20000 in
theorem dX6_tellTexts_199 : decode cX6_tellTexts 199 = .ok (.invokevirtual 134, 3) := by decide +kernel
set_option maxRecDepth 20000 in
theorem dX6_tellTexts_202 : decode cX6_tellTexts 202 = .ok (.iinc 7 1, 3) := by decide +kernel
set_option maxRecDepth 20000 in
theorem dX6_tellTexts_205 : decode cX6_tellTexts 205 = .ok (.iload_n 3, 1) := by decide +kernel
set_option maxRecDepth 20000 in
theorem dX6_tellTexts_206 : decode cX6_tellTexts 206 = .ok (.iconst 4, 1) := by decide +kernel
set_option maxRecDepth 20000 in
theorem dX6_tellTexts_207 : decode cX6_tellTexts 207 = .ok (.if_icmp .ne 7, 3) := by decide +kernel
set_option maxRecDepth 20000 in
theorem dX6_tellTexts_210 : decode cX6_tellTexts 210 = .ok (.iconst (-1), 1) := by decide +kernel
set_option maxRecDepth 20000 in
theorem dX6_tellTexts_211 : decode cX6_tellTexts 211 = .ok (.goto 13, 3) := by decide +kernel
set_option maxRecDepth 20000 in
theorem dX6_tellTexts_214 : decode cX6_tellTexts 214 = .ok (.aload_n 0, 1) := by decide +kernel
set_option maxRecDepth 20000 in
theorem dX6_tellTexts_215 : decode cX6_tellTexts 215 = .ok (.iload 5, 2) := by decide +kernel
set_option maxRecDepth 20000 in
theorem dX6_tellTexts_217 : decode cX6_tellTexts 217 = .ok (.iconst 1, 1) := by decide +kernel
set_option maxRecDepth 20000 in
theorem dX6_tellTexts_218 : decode cX6_tellTexts 218 = .ok (.iadd, 1) := by decide +kernel
set_option maxRecDepth 20000 in
theorem dX6_tellTexts_219 : decode cX6_tellTexts 219 = .ok (.iload 4, 2) := by decide +kernel
set_option maxRecDepth 20000 in
theorem dX6_tellTexts_221 : decode cX6_tellTexts 221 = .ok (.invokevirtual 211, 3) := by decide +kernel
set_option maxRecDepth 20000 in
theorem dX6_tellTexts_224 : decode cX6_tellTexts 224 = .ok (.istore 5, 2) := by decide +kernel
set_option maxRecDepth 20000 in
theorem dX6_tellTexts_226 : decode cX6_tellTexts 226 = .ok (.iinc 8 1, 3) := by decide +kernel
set_option maxRecDepth 20000 in
theorem dX6_tellTexts_229 : decode cX6_tellTexts 229 = .ok (.goto (-101), 3) := by decide +kernel
set_option maxRecDepth 20000 in
theorem dX6_tellTexts_232 : decode cX6_tellTexts 232 = .ok (.aload_n 2, 1) := by decide +kernel
set_option maxRecDepth 20000 in
theorem dX6_tellTexts_233 : decode cX6_tellTexts 233 = .ok (.iconst 4, 1) := by decide +kernel
set_option maxRecDepth 20000 in
theorem dX6_tellTexts_234 : decode cX6_tellTexts 234 = .ok (.iload 5, 2) := by decide +kernel
set_option maxRecDepth 20000 in
theorem dX6_tellTexts_236 : decode cX6_tellTexts 236 = .ok (.iconst (-1), 1) := by decide +kernel
set_option maxRecDepth 20000 in
theorem dX6_tellTexts_237 : decode cX6_tellTexts 237 = .ok (.if_icmp .ne 7, 3) := by decide +kernel
set_option maxRecDepth 20000 in
theorem dX6_tellTexts_240 : decode cX6_tellTexts 240 = .ok (.iconst 0, 1) := by decide +kernel
set_option maxRecDepth 20000 in
theorem dX6_tellTexts_241 : decode cX6_tellTexts 241 = .ok (.goto 6, 3) := by decide +kernel
set_option maxRecDepth 20000 in
theorem dX6_tellTexts_244 : decode cX6_tellTexts 244 = .ok (.sipush 255, 3) := by decide +kernel
set_option maxRecDepth 20000 in
theorem dX6_tellTexts_247 : decode cX6_tellTexts 247 = .ok (.invokevirtual 208, 3) := by decide +kernel
set_option maxRecDepth 20000 in
theorem dX6_tellTexts_250 : decode cX6_tellTexts 250 = .ok (.aload_n 2, 1) := by decide +kernel
set_option maxRecDepth 20000 in
theorem dX6_tellTexts_251 : decode cX6_tellTexts 251 = .ok (.iconst 5, 1) := by decide +kernel
set_option maxRecDepth 20000 in
theorem dX6_tellTexts_252 : decode cX6_tellTexts 252 = .ok (.iload 5, 2) := by decide +kernel
set_option maxRecDepth 20000 in
theorem dX6_tellTexts_254 : decode cX6_tellTexts 254 = .ok (.iconst (-1), 1) := by decide +kernel
set_option maxRecDepth 20000 in
theorem dX6_tellTexts_255 : decode cX6_tellTexts 255 = .ok (.if_icmp .ne 7, 3) := by decide +kernel
set_option maxRecDepth 20000 in
theorem dX6_tellTexts_258 : decode cX6_tellTexts 258 = .ok (.iconst 0, 1) := by decide +kernel
set_option maxRecDepth 20000 in
theorem dX6_tellTexts_259 : decode cX6_tellTexts 259 = .ok (.goto 5, 3) := by decide +kernel
set_option maxRecDepth 20000 in
theorem dX6_tellTexts_262 : decode cX6_tellTexts 262 = .ok (.iload 5, 2) := by decide +kernel
set_option maxRecDepth 20000 in
theorem dX6_tellTexts_264 : decode cX6_tellTexts 264 = .ok (.invokevirtual 208, 3) := by decide +kernel
set_option maxRecDepth 20000 in
theorem dX6_tellTexts_267 : decode cX6_tellTexts 267 = .ok (.aload_n 2, 1) := by decide +kernel
set_option maxRecDepth 20000 in
theorem dX6_tellTexts_268 : decode cX6_tellTexts 268 = .ok (.bipush 6, 2) := by decide +kernel
set_option maxRecDepth 20000 in
theorem dX6_tellTexts_270 : decode cX6_tellTexts 270 = .ok (.iload 7, 2) := by decide +kernel
set_option maxRecDepth 20000 in
theorem dX6_tellTexts_272 : decode cX6_tellTexts 272 = .ok (.invokevirtual 208, 3) := by decide +kernel
set_option maxRecDepth 20000 in
theorem dX6_tellTexts_275 : decode cX6_tellTexts 275 = .ok (.return_, 1) := by decide +kernel
