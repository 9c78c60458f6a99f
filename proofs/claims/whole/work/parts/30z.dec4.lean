set_option maxRecDepth 20000 in
theorem dX11_init_0 : decode cX11_init 0 = .ok (.aload_n 0, 1) := by decide +kernel
set_option maxRecDepth 20000 in
theorem dX11_init_1 : decode cX11_init 1 = .ok (.invokespecial 1, 3) := by decide +kernel
set_option maxRecDepth 20000 in
theorem dX11_init_4 : decode cX11_init 4 = .ok (.aload_n 0, 1) := by decide +kernel
set_option maxRecDepth 20000 in
theorem dX11_init_5 : decode cX11_init 5 = .ok (.new 7, 3) := by decide +kernel
set_option maxRecDepth 20000 in
theorem dX11_init_8 : decode cX11_init 8 = .ok (.dup, 1) := by decide +kernel
set_option maxRecDepth 20000 in
theorem dX11_init_9 : decode cX11_init 9 = .ok (.sipush 400, 3) := by decide +kernel
set_option maxRecDepth 20000 in
theorem dX11_init_12 : decode cX11_init 12 = .ok (.invokespecial 11, 3) := by decide +kernel
set_option maxRecDepth 20000 in
theorem dX11_init_15 : decode cX11_init 15 = .ok (.putfield 14, 3) := by decide +kernel
set_option maxRecDepth 20000 in
theorem dX11_init_18 : decode cX11_init 18 = .ok (.aload_n 0, 1) := by decide +kernel
set_option maxRecDepth 20000 in
theorem dX11_init_19 : decode cX11_init 19 = .ok (.new 7, 3) := by decide +kernel
set_option maxRecDepth 20000 in
theorem dX11_init_22 : decode cX11_init 22 = .ok (.dup, 1) := by decide +kernel
set_option maxRecDepth 20000 in
theorem dX11_init_23 : decode cX11_init 23 = .ok (.sipush 253, 3) := by decide +kernel
set_option maxRecDepth 20000 in
theorem dX11_init_26 : decode cX11_init 26 = .ok (.invokespecial 11, 3) := by decide +kernel
set_option maxRecDepth 20000 in
theorem dX11_init_29 : decode cX11_init 29 = .ok (.putfield 18, 3) := by decide +kernel
set_option maxRecDepth 20000 in
theorem dX11_init_32 : decode cX11_init 32 = .ok (.aload_n 0, 1) := by decide +kernel
set_option maxRecDepth 20000 in
theorem dX11_init_33 : decode cX11_init 33 = .ok (.new 7, 3) := by decide +kernel
set_option maxRecDepth 20000 in
theorem dX11_init_36 : decode cX11_init 36 = .ok (.dup, 1) := by decide +kernel
set_option maxRecDepth 20000 in
theorem dX11_init_37 : decode cX11_init 37 = .ok (.sipush 253, 3) := by decide +kernel
set_option maxRecDepth 20000 in
theorem dX11_init_40 : decode cX11_init 40 = .ok (.invokespecial 11, 3) := by decide +kernel
set_option maxRecDepth 20000 in
theorem dX11_init_43 : decode cX11_init 43 = .ok (.putfield 21, 3) := by decide +kernel
set_option maxRecDepth 20000 in
theorem dX11_init_46 : decode cX11_init 46 = .ok (.aload_n 0, 1) := by decide +kernel
set_option maxRecDepth 20000 in
theorem dX11_init_47 : decode cX11_init 47 = .ok (.new 7, 3) := by decide +kernel
set_option maxRecDepth 20000 in
theorem dX11_init_50 : decode cX11_init 50 = .ok (.dup, 1) := by decide +kernel
set_option maxRecDepth 20000 in
theorem dX11_init_51 : decode cX11_init 51 = .ok (.sipush 253, 3) := by decide +kernel
set_option maxRecDepth 20000 in
theorem dX11_init_54 : decode cX11_init 54 = .ok (.invokespecial 11, 3) := by decide +kernel
set_option maxRecDepth 20000 in
theorem dX11_init_57 : decode cX11_init 57 = .ok (.putfield 24, 3) := by decide +kernel
set_option maxRecDepth 20000 in
theorem dX11_init_60 : decode cX11_init 60 = .ok (.aload_n 0, 1) := by decide +kernel
set_option maxRecDepth 20000 in
theorem dX11_init_61 : decode cX11_init 61 = .ok (.bipush 6, 2) := by decide +kernel
set_option maxRecDepth 20000 in
theorem dX11_init_63 : decode cX11_init 63 = .ok (.anewarray 27, 3) := by decide +kernel
set_option maxRecDepth 20000 in
theorem dX11_init_66 : decode cX11_init 66 = .ok (.putfield 29, 3) := by decide +kernel
set_option maxRecDepth 20000 in
theorem dX11_init_69 : decode cX11_init 69 = .ok (.aload_n 0, 1) := by decide +kernel
set_option maxRecDepth 20000 in
theorem dX11_init_70 : decode cX11_init 70 = .ok (.iconst 0, 1) := by decide +kernel
set_option maxRecDepth 20000 in
theorem dX11_init_71 : decode cX11_init 71 = .ok (.putfield 33, 3) := by decide +kernel
set_option maxRecDepth 20000 in
theorem dX11_init_74 : decode cX11_init 74 = .ok (.aload_n 0, 1) := by decide +kernel
set_option maxRecDepth 20000 in
theorem dX11_init_75 : decode cX11_init 75 = .ok (.new 37, 3) := by decide +kernel
set_option maxRecDepth 20000 in
theorem dX11_init_78 : decode cX11_init 78 = .ok (.dup, 1) := by decide +kernel
set_option maxRecDepth 20000 in
theorem dX11_init_79 : decode cX11_init 79 = .ok (.invokespecial 39, 3) := by decide +kernel
set_option maxRecDepth 20000 in
theorem dX11_init_82 : decode cX11_init 82 = .ok (.putfield 40, 3) := by decide +kernel
set_option maxRecDepth 20000 in
theorem dX11_init_85 : decode cX11_init 85 = .ok (.aload_n 0, 1) := by decide +kernel
set_option maxRecDepth 20000 in
theorem dX11_init_86 : decode cX11_init 86 = .ok (.new 44, 3) := by decide +kernel
set_option maxRecDepth 20000 in
theorem dX11_init_89 : decode cX11_init 89 = .ok (.dup, 1) := by decide +kernel
set_option maxRecDepth 20000 in
theorem dX11_init_90 : decode cX11_init 90 = .ok (.invokespecial 46, 3) := by decide +kernel
set_option maxRecDepth 20000 in
theorem dX11_init_93 : decode cX11_init 93 = .ok (.putfield 47, 3) := by decide +kernel
set_option maxRecDepth 20000 in
theorem dX11_init_96 : decode cX11_init 96 = .ok (.aload_n 0, 1) := by decide +kernel
set_option maxRecDepth 20000 in
theorem dX11_init_97 : decode cX11_init 97 = .ok (.iconst 0, 1) := by decide +kernel
set_option maxRecDepth 20000 in
theorem dX11_init_98 : decode cX11_init 98 = .ok (.putfield 51, 3) := by decide +kernel
set_option maxRecDepth 20000 in
theorem dX11_init_101 : decode cX11_init 101 = .ok (.return_, 1) := by decide +kernel
set_option maxRecDepth 20000 in
theorem dX11_feed_0 : decode cX11_feed 0 = .ok (.aload_n 0, 1) := by decide +kernel
set_option maxRecDepth 20000 in
theorem dX11_feed_1 : decode cX11_feed 1 = .ok (.getfield 14, 3) := by decide +kernel
set_option maxRecDepth 20000 in
theorem dX11_feed_4 : decode cX11_feed 4 = .ok (.getfield 54, 3) := by decide +kernel
set_option maxRecDepth 20000 in
theorem dX11_feed_7 : decode cX11_feed 7 = .ok (.bipush 20, 2) := by decide +kernel
set_option maxRecDepth 20000 in
theorem dX11_feed_9 : decode cX11_feed 9 = .ok (.iadd, 1) := by decide +kernel
set_option maxRecDepth 20000 in
theorem dX11_feed_10 : decode cX11_feed 10 = .ok (.sipush 400, 3) := by decide +kernel
set_option maxRecDepth 20000 in
theorem dX11_feed_13 : decode cX11_feed 13 = .ok (.if_icmp .le 5, 3) := by decide +kernel
set_option maxRecDepth 20000 in
theorem dX11_feed_16 : decode cX11_feed 16 = .ok (.iconst (-1), 1) := by decide +kernel
set_option maxRecDepth 20000 in
theorem dX11_feed_17 : decode cX11_feed 17 = .ok (.ireturn, 1) := by decide +kernel
set_option maxRecDepth 20000 in
theorem dX11_feed_18 : decode cX11_feed 18 = .ok (.aload_n 0, 1) := by decide +kernel
set_option maxRecDepth 20000 in
theorem dX11_feed_19 : decode cX11_feed 19 = .ok (.iload_n 1, 1) := by decide +kernel
set_option maxRecDepth 20000 in
theorem dX11_feed_20 : decode cX11_feed 20 = .ok (.invokevirtual 57, 3) := by decide +kernel
set_option maxRecDepth 20000 in
theorem dX11_feed_23 : decode cX11_feed 23 = .ok (.aload_n 0, 1) := by decide +kernel
set_option maxRecDepth 20000 in
theorem dX11_feed_24 : decode cX11_feed 24 = .ok (.iload_n 2, 1) := by decide +kernel
set_option maxRecDepth 20000 in
theorem dX11_feed_25 : decode cX11_feed 25 = .ok (.invokevirtual 57, 3) := by decide +kernel
set_option maxRecDepth 20000 in
theorem dX11_feed_28 : decode cX11_feed 28 = .ok (.aload_n 0, 1) := by decide +kernel
set_option maxRecDepth 20000 in
theorem dX11_feed_29 : decode cX11_feed 29 = .ok (.iload_n 3, 1) := by decide +kernel
set_option maxRecDepth 20000 in
theorem dX11_feed_30 : decode cX11_feed 30 = .ok (.invokevirtual 57, 3) := by decide +kernel
set_option maxRecDepth 20000 in
theorem dX11_feed_33 : decode cX11_feed 33 = .ok (.aload_n 0, 1) := by decide +kernel
set_option maxRecDepth 20000 in
theorem dX11_feed_34 : decode cX11_feed 34 = .ok (.iload 4, 2) := by decide +kernel
set_option maxRecDepth 20000 in
theorem dX11_feed_36 : decode cX11_feed 36 = .ok (.invokevirtual 57, 3) := by decide +kernel
set_option maxRecDepth 20000 in
theorem dX11_feed_39 : decode cX11_feed 39 = .ok (.aload_n 0, 1) := by decide +kernel
set_option maxRecDepth 20000 in
theorem dX11_feed_40 : decode cX11_feed 40 = .ok (.iload 5, 2) := by decide +kernel
set_option maxRecDepth 20000 in
theorem dX11_feed_42 : decode cX11_feed 42 = .ok (.invokevirtual 57, 3) := by decide +kernel
set_option maxRecDepth 20000 in
theorem dX11_feed_45 : decode cX11_feed 45 = .ok (.aload_n 0, 1) := by decide +kernel
set_option maxRecDepth 20000 in
theorem dX11_feed_46 : decode cX11_feed 46 = .ok (.getfield 14, 3) := by decide +kernel
set_option maxRecDepth 20000 in
theorem dX11_feed_49 : decode cX11_feed 49 = .ok (.getfield 54, 3) := by decide +kernel
set_option maxRecDepth 20000 in
theorem dX11_feed_52 : decode cX11_feed 52 = .ok (.ireturn, 1) := by decide +kernel
set_option maxRecDepth 20000 in
theorem dX11_feedNumber_0 : decode cX11_feedNumber 0 = .ok (.aload_n 0, 1) := by decide +kernel
set_option maxRecDepth 20000 in
theorem dX11_feedNumber_1 : decode cX11_feedNumber 1 = .ok (.getfield 14, 3) := by decide +kernel
set_option maxRecDepth 20000 in
theorem dX11_feedNumber_4 : decode cX11_feedNumber 4 = .ok (.iload_n 1, 1) := by decide +kernel
set_option maxRecDepth 20000 in
theorem dX11_feedNumber_5 : decode cX11_feedNumber 5 = .ok (.bipush 16, 2) := by decide +kernel
set_option maxRecDepth 20000 in
theorem dX11_feedNumber_7 : decode cX11_feedNumber 7 = .ok (.iushr, 1) := by decide +kernel
set_option maxRecDepth 20000 in
theorem dX11_feedNumber_8 : decode cX11_feedNumber 8 = .ok (.invokevirtual 60, 3) := by decide +kernel
set_option maxRecDepth 20000 in
theorem dX11_feedNumber_11 : decode cX11_feedNumber 11 = .ok (.aload_n 0, 1) := by decide +kernel
set_option maxRecDepth 20000 in
theorem dX11_feedNumber_12 : decode cX11_feedNumber 12 = .ok (.getfield 14, 3) := by decide +kernel
set_option maxRecDepth 20000 in
theorem dX11_feedNumber_15 : decode cX11_feedNumber 15 = .ok (.iload_n 1, 1) := by decide +kernel
set_option maxRecDepth 20000 in
theorem dX11_feedNumber_16 : decode cX11_feedNumber 16 = .ok (.ldc 63, 2) := by decide +kernel
set_option maxRecDepth 20000 in
theorem dX11_feedNumber_18 : decode cX11_feedNumber 18 = .ok (.iand, 1) := by decide +kernel
set_option maxRecDepth 20000 in
theorem dX11_feedNumber_19 : decode cX11_feedNumber 19 = .ok (.invokevirtual 60, 3) := by decide +kernel
set_option maxRecDepth 20000 in
theorem dX11_feedNumber_22 : decode cX11_feedNumber 22 = .ok (.return_, 1) := by decide +kernel
set_option maxRecDepth 20000 in
theorem dX11_end_0 : decode cX11_end 0 = .ok (.iload_n 1, 1) := by decide +kernel
set_option maxRecDepth 20000 in
theorem dX11_end_1 : decode cX11_end 1 = .ok (.ifCond .lt 14, 3) := by decide +kernel
set_option maxRecDepth 20000 in
theorem dX11_end_4 : decode cX11_end 4 = .ok (.iload_n 1, 1) := by decide +kernel
set_option maxRecDepth 20000 in
theorem dX11_end_5 : decode cX11_end 5 = .ok (.aload_n 0, 1) := by decide +kernel
set_option maxRecDepth 20000 in
theorem dX11_end_6 : decode cX11_end 6 = .ok (.getfield 14, 3) := by decide +kernel
set_option maxRecDepth 20000 in
theorem dX11_end_9 : decode cX11_end 9 = .ok (.getfield 54, 3) := by decide +kernel
set_option maxRecDepth 20000 in
theorem dX11_end_12 : decode cX11_end 12 = .ok (.if_icmp .le 5, 3) := by decide +kernel
set_option maxRecDepth 20000 in
theorem dX11_end_15 : decode cX11_end 15 = .ok (.iconst (-1), 1) := by decide +kernel
set_option maxRecDepth 20000 in
theorem dX11_end_16 : decode cX11_end 16 = .ok (.ireturn, 1) := by decide +kernel
set_option maxRecDepth 20000 in
theorem dX11_end_17 : decode cX11_end 17 = .ok (.aload_n 0, 1) := by decide +kernel
set_option maxRecDepth 20000 in
theorem dX11_end_18 : decode cX11_end 18 = .ok (.getfield 14, 3) := by decide +kernel
set_option maxRecDepth 20000 in
theorem dX11_end_21 : decode cX11_end 21 = .ok (.iload_n 1, 1) := by decide +kernel
set_option maxRecDepth 20000 in
theorem dX11_end_22 : decode cX11_end 22 = .ok (.invokevirtual 64, 3) := by decide +kernel
set_option maxRecDepth 20000 in
theorem dX11_end_25 : decode cX11_end 25 = .ok (.iload_n 1, 1) := by decide +kernel
set_option maxRecDepth 20000 in
theorem dX11_end_26 : decode cX11_end 26 = .ok (.ireturn, 1) := by decide +kernel
set_option maxRecDepth 20000 in
theorem dX11_sum_0 : decode cX11_sum 0 = .ok (.aload_n 0, 1) := by decide +kernel
set_option maxRecDepth 20000 in
theorem dX11_sum_1 : decode cX11_sum 1 = .ok (.getfield 14, 3) := by decide +kernel
set_option maxRecDepth 20000 in
theorem dX11_sum_4 : decode cX11_sum 4 = .ok (.aload_n 0, 1) := by decide +kernel
set_option maxRecDepth 20000 in
theorem dX11_sum_5 : decode cX11_sum 5 = .ok (.getfield 14, 3) := by decide +kernel
set_option maxRecDepth 20000 in
theorem dX11_sum_8 : decode cX11_sum 8 = .ok (.getfield 54, 3) := by decide +kernel
set_option maxRecDepth 20000 in
theorem dX11_sum_11 : decode cX11_sum 11 = .ok (.invokevirtual 67, 3) := by decide +kernel
set_option maxRecDepth 20000 in
theorem dX11_sum_14 : decode cX11_sum 14 = .ok (.ireturn, 1) := by decide +kernel
set_option maxRecDepth 20000 in
theorem dX11_device_0 : decode cX11_device 0 = .ok (.aload_n 0, 1) := by decide +kernel
set_option maxRecDepth 20000 in
theorem dX11_device_1 : decode cX11_device 1 = .ok (.getfield 33, 3) := by decide +kernel
set_option maxRecDepth 20000 in
theorem dX11_device_4 : decode cX11_device 4 = .ok (.bipush 6, 2) := by decide +kernel
set_option maxRecDepth 20000 in
theorem dX11_device_6 : decode cX11_device 6 = .ok (.if_icmp .ge 33, 3) := by decide +kernel
set_option maxRecDepth 20000 in
theorem dX11_device_9 : decode cX11_device 9 = .ok (.iload_n 1, 1) := by decide +kernel
set_option maxRecDepth 20000 in
theorem dX11_device_10 : decode cX11_device 10 = .ok (.iconst 1, 1) := by decide +kernel
set_option maxRecDepth 20000 in
theorem dX11_device_11 : decode cX11_device 11 = .ok (.sipush 247, 3) := by decide +kernel
set_option maxRecDepth 20000 in
theorem dX11_device_14 : decode cX11_device 14 = .ok (.invokestatic 71, 3) := by decide +kernel
set_option maxRecDepth 20000 in
theorem dX11_device_17 : decode cX11_device 17 = .ok (.ifCond .eq 22, 3) := by decide +kernel
set_option maxRecDepth 20000 in
theorem dX11_device_20 : decode cX11_device 20 = .ok (.iload_n 2, 1) := by decide +kernel
set_option maxRecDepth 20000 in
theorem dX11_device_21 : decode cX11_device 21 = .ok (.iconst 0, 1) := by decide +kernel
set_option maxRecDepth 20000 in
theorem dX11_device_22 : decode cX11_device 22 = .ok (.sipush 2000, 3) := by decide +kernel
set_option maxRecDepth 20000 in
theorem dX11_device_25 : decode cX11_device 25 = .ok (.invokestatic 71, 3) := by decide +kernel
set_option maxRecDepth 20000 in
theorem dX11_device_28 : decode cX11_device 28 = .ok (.ifCond .eq 11, 3) := by decide +kernel
set_option maxRecDepth 20000 in
theorem dX11_device_31 : decode cX11_device 31 = .ok (.aload_n 0, 1) := by decide +kernel
set_option maxRecDepth 20000 in
theorem dX11_device_32 : decode cX11_device 32 = .ok (.iload_n 1, 1) := by decide +kernel
set_option maxRecDepth 20000 in
theorem dX11_device_33 : decode cX11_device 33 = .ok (.invokevirtual 75, 3) := by decide +kernel
set_option maxRecDepth 20000 in
theorem dX11_device_36 : decode cX11_device 36 = .ok (.ifCond .eq 5, 3) := by decide +kernel
set_option maxRecDepth 20000 in
theorem dX11_device_39 : decode cX11_device 39 = .ok (.iconst (-1), 1) := by decide +kernel
set_option maxRecDepth 20000 in
theorem dX11_device_40 : decode cX11_device 40 = .ok (.ireturn, 1) := by decide +kernel
set_option maxRecDepth 20000 in
theorem dX11_device_41 : decode cX11_device 41 = .ok (.aload_n 0, 1) := by decide +kernel
set_option maxRecDepth 20000 in
theorem dX11_device_42 : decode cX11_device 42 = .ok (.getfield 29, 3) := by decide +kernel
set_option maxRecDepth 20000 in
theorem dX11_device_45 : decode cX11_device 45 = .ok (.aload_n 0, 1) := by decide +kernel
set_option maxRecDepth 20000 in
theorem dX11_device_46 : decode cX11_device 46 = .ok (.getfield 33, 3) := by decide +kernel
set_option maxRecDepth 20000 in
theorem dX11_device_49 : decode cX11_device 49 = .ok (.new 27, 3) := by decide +kernel
set_option maxRecDepth 20000 in
theorem dX11_device_52 : decode cX11_device 52 = .ok (.dup, 1) := by decide +kernel
set_option maxRecDepth 20000 in
theorem dX11_device_53 : decode cX11_device 53 = .ok (.aload_n 0, 1) := by decide +kernel
set_option maxRecDepth 20000 in
theorem dX11_device_54 : decode cX11_device 54 = .ok (.getfield 33, 3) := by decide +kernel
set_option maxRecDepth 20000 in
theorem dX11_device_57 : decode cX11_device 57 = .ok (.iload_n 1, 1) := by decide +kernel
set_option maxRecDepth 20000 in
theorem dX11_device_58 : decode cX11_device 58 = .ok (.iload_n 2, 1) := by decide +kernel
set_option maxRecDepth 20000 in
theorem dX11_device_59 : decode cX11_device 59 = .ok (.invokespecial 79, 3) := by decide +kernel
set_option maxRecDepth 20000 in
theorem dX11_device_62 : decode cX11_device 62 = .ok (.aastore, 1) := by decide +kernel
set_option maxRecDepth 20000 in
theorem dX11_device_63 : decode cX11_device 63 = .ok (.aload_n 0, 1) := by decide +kernel
set_option maxRecDepth 20000 in
theorem dX11_device_64 : decode cX11_device 64 = .ok (.dup, 1) := by decide +kernel
set_option maxRecDepth 20000 in
theorem dX11_device_65 : decode cX11_device 65 = .ok (.getfield 33, 3) := by decide +kernel
set_option maxRecDepth 20000 in
theorem dX11_device_68 : decode cX11_device 68 = .ok (.iconst 1, 1) := by decide +kernel
set_option maxRecDepth 20000 in
theorem dX11_device_69 : decode cX11_device 69 = .ok (.iadd, 1) := by decide +kernel
set_option maxRecDepth 20000 in
theorem dX11_device_70 : decode cX11_device 70 = .ok (.putfield 33, 3) := by decide +kernel
set_option maxRecDepth 20000 in
theorem dX11_device_73 : decode cX11_device 73 = .ok (.aload_n 0, 1) := by decide +kernel
set_option maxRecDepth 20000 in
theorem dX11_device_74 : decode cX11_device 74 = .ok (.getfield 33, 3) := by decide +kernel
set_option maxRecDepth 20000 in
theorem dX11_device_77 : decode cX11_device 77 = .ok (.iconst 1, 1) := by decide +kernel
set_option maxRecDepth 20000 in
theorem dX11_device_78 : decode cX11_device 78 = .ok (.isub, 1) := by decide +kernel
set_option maxRecDepth 20000 in
theorem dX11_device_79 : decode cX11_device 79 = .ok (.ireturn, 1) := by decide +kernel
set_option maxRecDepth 20000 in
theorem dX11_isTaken_0 : decode cX11_isTaken 0 = .ok (.iconst 0, 1) := by decide +kernel
set_option maxRecDepth 20000 in
theorem dX11_isTaken_1 : decode cX11_isTaken 1 = .ok (.istore_n 2, 1) := by decide +kernel
set_option maxRecDepth 20000 in
theorem dX11_isTaken_2 : decode cX11_isTaken 2 = .ok (.iload_n 2, 1) := by decide +kernel
set_option maxRecDepth 20000 in
theorem dX11_isTaken_3 : decode cX11_isTaken 3 = .ok (.aload_n 0, 1) := by decide +kernel
set_option maxRecDepth 20000 in
theorem dX11_isTaken_4 : decode cX11_isTaken 4 = .ok (.getfield 33, 3) := by decide +kernel
set_option maxRecDepth 20000 in
theorem dX11_isTaken_7 : decode cX11_isTaken 7 = .ok (.if_icmp .ge 29, 3) := by decide +kernel
set_option maxRecDepth 20000 in
theorem dX11_isTaken_10 : decode cX11_isTaken 10 = .ok (.aload_n 0, 1) := by decide +kernel
set_option maxRecDepth 20000 in
theorem dX11_isTaken_11 : decode cX11_isTaken 11 = .ok (.iload_n 2, 1) := by decide +kernel
set_option maxRecDepth 20000 in
theorem dX11_isTaken_12 : decode cX11_isTaken 12 = .ok (.invokevirtual 82, 3) := by decide +kernel
set_option maxRecDepth 20000 in
theorem dX11_isTaken_15 : decode cX11_isTaken 15 = .ok (.astore_n 3, 1) := by decide +kernel
set_option maxRecDepth 20000 in
theorem dX11_isTaken_16 : decode cX11_isTaken 16 = .ok (.aload_n 3, 1) := by decide +kernel
set_option maxRecDepth 20000 in
theorem dX11_isTaken_17 : decode cX11_isTaken 17 = .ok (.ifnull 13, 3) := by decide +kernel
set_option maxRecDepth 20000 in
theorem dX11_isTaken_20 : decode cX11_isTaken 20 = .ok (.aload_n 3, 1) := by decide +kernel
set_option maxRecDepth 20000 in
theorem dX11_isTaken_21 : decode cX11_isTaken 21 = .ok (.getfield 86, 3) := by decide +kernel
set_option maxRecDepth 20000 in
theorem dX11_isTaken_24 : decode cX11_isTaken 24 = .ok (.iload_n 1, 1) := by decide +kernel
set_option maxRecDepth 20000 in
theorem dX11_isTaken_25 : decode cX11_isTaken 25 = .ok (.if_icmp .ne 5, 3) := by decide +kernel
set_option maxRecDepth 20000 in
theorem dX11_isTaken_28 : decode cX11_isTaken 28 = .ok (.iconst 1, 1) := by decide +kernel
set_option maxRecDepth 20000 in
theorem dX11_isTaken_29 : decode cX11_isTaken 29 = .ok (.ireturn, 1) := by decide +kernel
set_option maxRecDepth 20000 in
theorem dX11_isTaken_30 : decode cX11_isTaken 30 = .ok (.iinc 2 1, 3) := by decide +kernel
set_option maxRecDepth 20000 in
theorem dX11_isTaken_33 : decode cX11_isTaken 33 = .ok (.goto (-31), 3) := by decide +kernel
set_option maxRecDepth 20000 in
theorem dX11_isTaken_36 : decode cX11_isTaken 36 = .ok (.iconst 0, 1) := by decide +kernel
set_option maxRecDepth 20000 in
theorem dX11_isTaken_37 : decode cX11_isTaken 37 = .ok (.ireturn, 1) := by decide +kernel
set_option maxRecDepth 20000 in
theorem dX11_deviceOf_0 : decode cX11_deviceOf 0 = .ok (.iload_n 1, 1) := by decide +kernel
set_option maxRecDepth 20000 in
theorem dX11_deviceOf_1 : decode cX11_deviceOf 1 = .ok (.ifCond .lt 29, 3) := by decide +kernel
set_option maxRecDepth 20000 in
theorem dX11_deviceOf_4 : decode cX11_deviceOf 4 = .ok (.iload_n 1, 1) := by decide +kernel
set_option maxRecDepth 20000 in
theorem dX11_deviceOf_5 : decode cX11_deviceOf 5 = .ok (.aload_n 0, 1) := by decide +kernel
set_option maxRecDepth 20000 in
theorem dX11_deviceOf_6 : decode cX11_deviceOf 6 = .ok (.getfield 33, 3) := by decide +kernel
set_option maxRecDepth 20000 in
theorem dX11_deviceOf_9 : decode cX11_deviceOf 9 = .ok (.if_icmp .ge 21, 3) := by decide +kernel
set_option maxRecDepth 20000 in
theorem dX11_deviceOf_12 : decode cX11_deviceOf 12 = .ok (.iload_n 1, 1) := by decide +kernel
set_option maxRecDepth 20000 in
theorem dX11_deviceOf_13 : decode cX11_deviceOf 13 = .ok (.aload_n 0, 1) := by decide +kernel
set_option maxRecDepth 20000 in
theorem dX11_deviceOf_14 : decode cX11_deviceOf 14 = .ok (.getfield 29, 3) := by decide +kernel
set_option maxRecDepth 20000 in
theorem dX11_deviceOf_17 : decode cX11_deviceOf 17 = .ok (.arraylength, 1) := by decide +kernel
set_option maxRecDepth 20000 in
theorem dX11_deviceOf_18 : decode cX11_deviceOf 18 = .ok (.if_icmp .ge 12, 3) := by decide +kernel
set_option maxRecDepth 20000 in
theorem dX11_deviceOf_21 : decode cX11_deviceOf 21 = .ok (.aload_n 0, 1) := by decide +kernel
set_option maxRecDepth 20000 in
theorem dX11_deviceOf_22 : decode cX11_deviceOf 22 = .ok (.getfield 29, 3) := by decide +kernel
set_option maxRecDepth 20000 in
theorem dX11_deviceOf_25 : decode cX11_deviceOf 25 = .ok (.iload_n 1, 1) := by decide +kernel
set_option maxRecDepth 20000 in
theorem dX11_deviceOf_26 : decode cX11_deviceOf 26 = .ok (.aaload, 1) := by decide +kernel
set_option maxRecDepth 20000 in
theorem dX11_deviceOf_27 : decode cX11_deviceOf 27 = .ok (.goto 4, 3) := by decide +kernel
set_option maxRecDepth 20000 in
theorem dX11_deviceOf_30 : decode cX11_deviceOf 30 = .ok (.aconst_null, 1) := by decide +kernel
set_option maxRecDepth 20000 in
theorem dX11_deviceOf_31 : decode cX11_deviceOf 31 = .ok (.areturn, 1) := by decide +kernel
set_option maxRecDepth 20000 in
theorem dX11_bankOf_0 : decode cX11_bankOf 0 = .ok (.aload_n 0, 1) := by decide +kernel
set_option maxRecDepth 20000 in
theorem dX11_bankOf_1 : decode cX11_bankOf 1 = .ok (.iload_n 1, 1) := by decide +kernel
set_option maxRecDepth 20000 in
theorem dX11_bankOf_2 : decode cX11_bankOf 2 = .ok (.invokevirtual 82, 3) := by decide +kernel
set_option maxRecDepth 20000 in
theorem dX11_bankOf_5 : decode cX11_bankOf 5 = .ok (.astore_n 3, 1) := by decide +kernel
set_option maxRecDepth 20000 in
theorem dX11_bankOf_6 : decode cX11_bankOf 6 = .ok (.aload_n 3, 1) := by decide +kernel
set_option maxRecDepth 20000 in
theorem dX11_bankOf_7 : decode cX11_bankOf 7 = .ok (.ifnonnull 7, 3) := by decide +kernel
set_option maxRecDepth 20000 in
theorem dX11_bankOf_10 : decode cX11_bankOf 10 = .ok (.aconst_null, 1) := by decide +kernel
set_option maxRecDepth 20000 in
theorem dX11_bankOf_11 : decode cX11_bankOf 11 = .ok (.goto 8, 3) := by decide +kernel
set_option maxRecDepth 20000 in
theorem dX11_bankOf_14 : decode cX11_bankOf 14 = .ok (.aload_n 3, 1) := by decide +kernel
set_option maxRecDepth 20000 in
theorem dX11_bankOf_15 : decode cX11_bankOf 15 = .ok (.iload_n 2, 1) := by decide +kernel
set_option maxRecDepth 20000 in
theorem dX11_bankOf_16 : decode cX11_bankOf 16 = .ok (.invokevirtual 89, 3) := by decide +kernel
set_option maxRecDepth 20000 in
theorem dX11_bankOf_19 : decode cX11_bankOf 19 = .ok (.areturn, 1) := by decide +kernel
set_option maxRecDepth 20000 in
theorem dX11_within_0 : decode cX11_within 0 = .ok (.iload_n 0, 1) := by decide +kernel
set_option maxRecDepth 20000 in
theorem dX11_within_1 : decode cX11_within 1 = .ok (.iload_n 1, 1) := by decide +kernel
set_option maxRecDepth 20000 in
theorem dX11_within_2 : decode cX11_within 2 = .ok (.if_icmp .lt 12, 3) := by decide +kernel
set_option maxRecDepth 20000 in
theorem dX11_within_5 : decode cX11_within 5 = .ok (.iload_n 0, 1) := by decide +kernel
set_option maxRecDepth 20000 in
theorem dX11_within_6 : decode cX11_within 6 = .ok (.iload_n 2, 1) := by decide +kernel
set_option maxRecDepth 20000 in
theorem dX11_within_7 : decode cX11_within 7 = .ok (.if_icmp .gt 7, 3) := by decide +kernel
set_option maxRecDepth 20000 in
theorem dX11_within_10 : decode cX11_within 10 = .ok (.iconst 1, 1) := by decide +kernel
set_option maxRecDepth 20000 in
theorem dX11_within_11 : decode cX11_within 11 = .ok (.goto 4, 3) := by decide +kernel
set_option maxRecDepth 20000 in
theorem dX11_within_14 : decode cX11_within 14 = .ok (.iconst 0, 1) := by decide +kernel
set_option maxRecDepth 20000 in
theorem dX11_within_15 : decode cX11_within 15 = .ok (.ireturn, 1) := by decide +kernel
set_option maxRecDepth 20000 in
theorem dX11_bank_0 : decode cX11_bank 0 = .ok (.aload_n 0, 1) := by decide +kernel
set_option maxRecDepth 20000 in
theorem dX11_bank_1 : decode cX11_bank 1 = .ok (.iload_n 1, 1) := by decide +kernel
set_option maxRecDepth 20000 in
theorem dX11_bank_2 : decode cX11_bank 2 = .ok (.iload_n 2, 1) := by decide +kernel
set_option maxRecDepth 20000 in
theorem dX11_bank_3 : decode cX11_bank 3 = .ok (.invokevirtual 93, 3) := by decide +kernel
set_option maxRecDepth 20000 in
theorem dX11_bank_6 : decode cX11_bank 6 = .ok (.astore 5, 2) := by decide +kernel
set_option maxRecDepth 20000 in
theorem dX11_bank_8 : decode cX11_bank 8 = .ok (.aload 5, 2) := by decide +kernel
set_option maxRecDepth 20000 in
theorem dX11_bank_10 : decode cX11_bank 10 = .ok (.ifnull 34, 3) := by decide +kernel
set_option maxRecDepth 20000 in
theorem dX11_bank_13 : decode cX11_bank 13 = .ok (.iload_n 3, 1) := by decide +kernel
set_option maxRecDepth 20000 in
theorem dX11_bank_14 : decode cX11_bank 14 = .ok (.iconst 0, 1) := by decide +kernel
set_option maxRecDepth 20000 in
theorem dX11_bank_15 : decode cX11_bank 15 = .ok (.ldc 63, 2) := by decide +kernel
set_option maxRecDepth 20000 in
theorem dX11_bank_17 : decode cX11_bank 17 = .ok (.invokestatic 71, 3) := by decide +kernel
set_option maxRecDepth 20000 in
theorem dX11_bank_20 : decode cX11_bank 20 = .ok (.ifCond .eq 24, 3) := by decide +kernel
set_option maxRecDepth 20000 in
theorem dX11_bank_23 : decode cX11_bank 23 = .ok (.iload 4, 2) := by decide +kernel
set_option maxRecDepth 20000 in
theorem dX11_bank_25 : decode cX11_bank 25 = .ok (.iconst 0, 1) := by decide +kernel
set_option maxRecDepth 20000 in
theorem dX11_bank_26 : decode cX11_bank 26 = .ok (.sipush 400, 3) := by decide +kernel
set_option maxRecDepth 20000 in
theorem dX11_bank_29 : decode cX11_bank 29 = .ok (.invokestatic 71, 3) := by decide +kernel
set_option maxRecDepth 20000 in
theorem dX11_bank_32 : decode cX11_bank 32 = .ok (.ifCond .eq 12, 3) := by decide +kernel
set_option maxRecDepth 20000 in
theorem dX11_bank_35 : decode cX11_bank 35 = .ok (.iload_n 3, 1) := by decide +kernel
set_option maxRecDepth 20000 in
theorem dX11_bank_36 : decode cX11_bank 36 = .ok (.iload 4, 2) := by decide +kernel
set_option maxRecDepth 20000 in
theorem dX11_bank_38 : decode cX11_bank 38 = .ok (.iadd, 1) := by decide +kernel
set_option maxRecDepth 20000 in
theorem dX11_bank_39 : decode cX11_bank 39 = .ok (.ldc 97, 2) := by decide +kernel
set_option maxRecDepth 20000 in
theorem dX11_bank_41 : decode cX11_bank 41 = .ok (.if_icmp .le 5, 3) := by decide +kernel
set_option maxRecDepth 20000 in
theorem dX11_bank_44 : decode cX11_bank 44 = .ok (.iconst 0, 1) := by decide +kernel
set_option maxRecDepth 20000 in
theorem dX11_bank_45 : decode cX11_bank 45 = .ok (.ireturn, 1) := by decide +kernel
set_option maxRecDepth 20000 in
theorem dX11_bank_46 : decode cX11_bank 46 = .ok (.aload 5, 2) := by decide +kernel
set_option maxRecDepth 20000 in
theorem dX11_bank_48 : decode cX11_bank 48 = .ok (.iload_n 3, 1) := by decide +kernel
set_option maxRecDepth 20000 in
theorem dX11_bank_49 : decode cX11_bank 49 = .ok (.iload 4, 2) := by decide +kernel
set_option maxRecDepth 20000 in
theorem dX11_bank_51 : decode cX11_bank 51 = .ok (.invokevirtual 98, 3) := by decide +kernel
set_option maxRecDepth 20000 in
theorem dX11_bank_54 : decode cX11_bank 54 = .ok (.iconst 1, 1) := by decide +kernel
set_option maxRecDepth 20000 in
theorem dX11_bank_55 : decode cX11_bank 55 = .ok (.ireturn, 1) := by decide +kernel
set_option maxRecDepth 20000 in
theorem dX11_put_0 : decode cX11_put 0 = .ok (.aload_n 0, 1) := by decide +kernel
set_option maxRecDepth 20000 in
theorem dX11_put_1 : decode cX11_put 1 = .ok (.iload_n 1, 1) := by decide +kernel
set_option maxRecDepth 20000 in
theorem dX11_put_2 : decode cX11_put 2 = .ok (.iload_n 2, 1) := by decide +kernel
set_option maxRecDepth 20000 in
theorem dX11_put_3 : decode cX11_put 3 = .ok (.invokevirtual 93, 3) := by decide +kernel
set_option maxRecDepth 20000 in
theorem dX11_put_6 : decode cX11_put 6 = .ok (.astore 5, 2) := by decide +kernel
set_option maxRecDepth 20000 in
theorem dX11_put_8 : decode cX11_put 8 = .ok (.aload 5, 2) := by decide +kernel
set_option maxRecDepth 20000 in
theorem dX11_put_10 : decode cX11_put 10 = .ok (.ifnull 13, 3) := by decide +kernel
set_option maxRecDepth 20000 in
theorem dX11_put_13 : decode cX11_put 13 = .ok (.aload 5, 2) := by decide +kernel
set_option maxRecDepth 20000 in
theorem dX11_put_15 : decode cX11_put 15 = .ok (.iload_n 3, 1) := by decide +kernel
set_option maxRecDepth 20000 in
theorem dX11_put_16 : decode cX11_put 16 = .ok (.iconst 1, 1) := by decide +kernel
set_option maxRecDepth 20000 in
theorem dX11_put_17 : decode cX11_put 17 = .ok (.invokevirtual 104, 3) := by decide +kernel
set_option maxRecDepth 20000 in
theorem dX11_put_20 : decode cX11_put 20 = .ok (.ifCond .ne 5, 3) := by decide +kernel
set_option maxRecDepth 20000 in
theorem dX11_put_23 : decode cX11_put 23 = .ok (.iconst 0, 1) := by decide +kernel
set_option maxRecDepth 20000 in
theorem dX11_put_24 : decode cX11_put 24 = .ok (.ireturn, 1) := by decide +kernel
set_option maxRecDepth 20000 in
theorem dX11_put_25 : decode cX11_put 25 = .ok (.aload 5, 2) := by decide +kernel
set_option maxRecDepth 20000 in
theorem dX11_put_27 : decode cX11_put 27 = .ok (.iload_n 3, 1) := by decide +kernel
set_option maxRecDepth 20000 in
theorem dX11_put_28 : decode cX11_put 28 = .ok (.iload 4, 2) := by decide +kernel
set_option maxRecDepth 20000 in
theorem dX11_put_30 : decode cX11_put 30 = .ok (.invokevirtual 108, 3) := by decide +kernel
set_option maxRecDepth 20000 in
theorem dX11_put_33 : decode cX11_put 33 = .ok (.iconst 1, 1) := by decide +kernel
set_option maxRecDepth 20000 in
theorem dX11_put_34 : decode cX11_put 34 = .ok (.ireturn, 1) := by decide +kernel
set_option maxRecDepth 20000 in
theorem dX11_get_0 : decode cX11_get 0 = .ok (.aload_n 0, 1) := by decide +kernel
set_option maxRecDepth 20000 in
theorem dX11_get_1 : decode cX11_get 1 = .ok (.iload_n 1, 1) := by decide +kernel
set_option maxRecDepth 20000 in
theorem dX11_get_2 : decode cX11_get 2 = .ok (.iload_n 2, 1) := by decide +kernel
set_option maxRecDepth 20000 in
theorem dX11_get_3 : decode cX11_get 3 = .ok (.invokevirtual 93, 3) := by decide +kernel
set_option maxRecDepth 20000 in
theorem dX11_get_6 : decode cX11_get 6 = .ok (.astore 4, 2) := by decide +kernel
set_option maxRecDepth 20000 in
theorem dX11_get_8 : decode cX11_get 8 = .ok (.aload 4, 2) := by decide +kernel
set_option maxRecDepth 20000 in
theorem dX11_get_10 : decode cX11_get 10 = .ok (.ifnonnull 7, 3) := by decide +kernel
set_option maxRecDepth 20000 in
theorem dX11_get_13 : decode cX11_get 13 = .ok (.iconst (-1), 1) := by decide +kernel
set_option maxRecDepth 20000 in
theorem dX11_get_14 : decode cX11_get 14 = .ok (.goto 9, 3) := by decide +kernel
set_option maxRecDepth 20000 in
theorem dX11_get_17 : decode cX11_get 17 = .ok (.aload 4, 2) := by decide +kernel
set_option maxRecDepth 20000 in
theorem dX11_get_19 : decode cX11_get 19 = .ok (.iload_n 3, 1) := by decide +kernel
set_option maxRecDepth 20000 in
theorem dX11_get_20 : decode cX11_get 20 = .ok (.invokevirtual 111, 3) := by decide +kernel
set_option maxRecDepth 20000 in
theorem dX11_get_23 : decode cX11_get 23 = .ok (.ireturn, 1) := by decide +kernel
set_option maxRecDepth 20000 in
theorem dX11_limit_0 : decode cX11_limit 0 = .ok (.aload_n 0, 1) := by decide +kernel
set_option maxRecDepth 20000 in
theorem dX11_limit_1 : decode cX11_limit 1 = .ok (.iload_n 1, 1) := by decide +kernel
set_option maxRecDepth 20000 in
theorem dX11_limit_2 : decode cX11_limit 2 = .ok (.invokevirtual 82, 3) := by decide +kernel
set_option maxRecDepth 20000 in
theorem dX11_limit_5 : decode cX11_limit 5 = .ok (.astore 6, 2) := by decide +kernel
set_option maxRecDepth 20000 in
theorem dX11_limit_7 : decode cX11_limit 7 = .ok (.aload 6, 2) := by decide +kernel
set_option maxRecDepth 20000 in
theorem dX11_limit_9 : decode cX11_limit 9 = .ok (.ifnull 31, 3) := by decide +kernel
set_option maxRecDepth 20000 in
theorem dX11_limit_12 : decode cX11_limit 12 = .ok (.iload_n 2, 1) := by decide +kernel
set_option maxRecDepth 20000 in
theorem dX11_limit_13 : decode cX11_limit 13 = .ok (.iconst 0, 1) := by decide +kernel
set_option maxRecDepth 20000 in
theorem dX11_limit_14 : decode cX11_limit 14 = .ok (.ldc 63, 2) := by decide +kernel
set_option maxRecDepth 20000 in
theorem dX11_limit_16 : decode cX11_limit 16 = .ok (.invokestatic 71, 3) := by decide +kernel
set_option maxRecDepth 20000 in
theorem dX11_limit_19 : decode cX11_limit 19 = .ok (.ifCond .eq 21, 3) := by decide +kernel
set_option maxRecDepth 20000 in
theorem dX11_limit_22 : decode cX11_limit 22 = .ok (.iload_n 3, 1) := by decide +kernel
set_option maxRecDepth 20000 in
theorem dX11_limit_23 : decode cX11_limit 23 = .ok (.iconst 1, 1) := by decide +kernel
set_option maxRecDepth 20000 in
theorem dX11_limit_24 : decode cX11_limit 24 = .ok (.ldc 97, 2) := by decide +kernel
set_option maxRecDepth 20000 in
theorem dX11_limit_26 : decode cX11_limit 26 = .ok (.invokestatic 71, 3) := by decide +kernel
set_option maxRecDepth 20000 in
theorem dX11_limit_29 : decode cX11_limit 29 = .ok (.ifCond .eq 11, 3) := by decide +kernel
set_option maxRecDepth 20000 in
theorem dX11_limit_32 : decode cX11_limit 32 = .ok (.iload_n 2, 1) := by decide +kernel
set_option maxRecDepth 20000 in
theorem dX11_limit_33 : decode cX11_limit 33 = .ok (.iload_n 3, 1) := by decide +kernel
set_option maxRecDepth 20000 in
theorem dX11_limit_34 : decode cX11_limit 34 = .ok (.iadd, 1) := by decide +kernel
set_option maxRecDepth 20000 in
theorem dX11_limit_35 : decode cX11_limit 35 = .ok (.ldc 97, 2) := by decide +kernel
set_option maxRecDepth 20000 in
theorem dX11_limit_37 : decode cX11_limit 37 = .ok (.if_icmp .le 5, 3) := by decide +kernel
set_option maxRecDepth 20000 in
theorem dX11_limit_40 : decode cX11_limit 40 = .ok (.iconst 0, 1) := by decide +kernel
set_option maxRecDepth 20000 in
theorem dX11_limit_41 : decode cX11_limit 41 = .ok (.ireturn, 1) := by decide +kernel
set_option maxRecDepth 20000 in
theorem dX11_limit_42 : decode cX11_limit 42 = .ok (.iload 4, 2) := by decide +kernel
set_option maxRecDepth 20000 in
theorem dX11_limit_44 : decode cX11_limit 44 = .ok (.iconst 0, 1) := by decide +kernel
set_option maxRecDepth 20000 in
theorem dX11_limit_45 : decode cX11_limit 45 = .ok (.ldc 63, 2) := by decide +kernel
set_option maxRecDepth 20000 in
theorem dX11_limit_47 : decode cX11_limit 47 = .ok (.invokestatic 71, 3) := by decide +kernel
set_option maxRecDepth 20000 in
theorem dX11_limit_50 : decode cX11_limit 50 = .ok (.ifCond .eq 15, 3) := by decide +kernel
set_option maxRecDepth 20000 in
theorem dX11_limit_53 : decode cX11_limit 53 = .ok (.iload 5, 2) := by decide +kernel
set_option maxRecDepth 20000 in
theorem dX11_limit_55 : decode cX11_limit 55 = .ok (.iload 4, 2) := by decide +kernel
set_option maxRecDepth 20000 in
theorem dX11_limit_57 : decode cX11_limit 57 = .ok (.ldc 63, 2) := by decide +kernel
set_option maxRecDepth 20000 in
theorem dX11_limit_59 : decode cX11_limit 59 = .ok (.invokestatic 71, 3) := by decide +kernel
set_option maxRecDepth 20000 in
theorem dX11_limit_62 : decode cX11_limit 62 = .ok (.ifCond .ne 5, 3) := by decide +kernel
set_option maxRecDepth 20000 in
theorem dX11_limit_65 : decode cX11_limit 65 = .ok (.iconst 0, 1) := by decide +kernel
set_option maxRecDepth 20000 in
theorem dX11_limit_66 : decode cX11_limit 66 = .ok (.ireturn, 1) := by decide +kernel
set_option maxRecDepth 20000 in
theorem dX11_limit_67 : decode cX11_limit 67 = .ok (.aload 6, 2) := by decide +kernel
set_option maxRecDepth 20000 in
theorem dX11_limit_69 : decode cX11_limit 69 = .ok (.iload_n 2, 1) := by decide +kernel
set_option maxRecDepth 20000 in
theorem dX11_limit_70 : decode cX11_limit 70 = .ok (.iload_n 3, 1) := by decide +kernel
set_option maxRecDepth 20000 in
theorem dX11_limit_71 : decode cX11_limit 71 = .ok (.iload 4, 2) := by decide +kernel
set_option maxRecDepth 20000 in
theorem dX11_limit_73 : decode cX11_limit 73 = .ok (.iload 5, 2) := by decide +kernel
set_option maxRecDepth 20000 in
theorem dX11_limit_75 : decode cX11_limit 75 = .ok (.invokevirtual 114, 3) := by decide +kernel
set_option maxRecDepth 20000 in
theorem dX11_limit_78 : decode cX11_limit 78 = .ok (.ireturn, 1) := by decide +kernel
set_option maxRecDepth 20000 in
theorem dX11_file_0 : decode cX11_file 0 = .ok (.aload_n 0, 1) := by decide +kernel
set_option maxRecDepth 20000 in
theorem dX11_file_1 : decode cX11_file 1 = .ok (.iload_n 1, 1) := by decide +kernel
set_option maxRecDepth 20000 in
theorem dX11_file_2 : decode cX11_file 2 = .ok (.invokevirtual 82, 3) := by decide +kernel
set_option maxRecDepth 20000 in
theorem dX11_file_5 : decode cX11_file 5 = .ok (.astore 4, 2) := by decide +kernel
set_option maxRecDepth 20000 in
theorem dX11_file_7 : decode cX11_file 7 = .ok (.aload 4, 2) := by decide +kernel
set_option maxRecDepth 20000 in
theorem dX11_file_9 : decode cX11_file 9 = .ok (.ifnull 23, 3) := by decide +kernel
set_option maxRecDepth 20000 in
theorem dX11_file_12 : decode cX11_file 12 = .ok (.iload_n 2, 1) := by decide +kernel
set_option maxRecDepth 20000 in
theorem dX11_file_13 : decode cX11_file 13 = .ok (.iconst 1, 1) := by decide +kernel
set_option maxRecDepth 20000 in
theorem dX11_file_14 : decode cX11_file 14 = .ok (.ldc 63, 2) := by decide +kernel
set_option maxRecDepth 20000 in
theorem dX11_file_16 : decode cX11_file 16 = .ok (.invokestatic 71, 3) := by decide +kernel
set_option maxRecDepth 20000 in
theorem dX11_file_19 : decode cX11_file 19 = .ok (.ifCond .eq 13, 3) := by decide +kernel
set_option maxRecDepth 20000 in
theorem dX11_file_22 : decode cX11_file 22 = .ok (.iload_n 3, 1) := by decide +kernel
set_option maxRecDepth 20000 in
theorem dX11_file_23 : decode cX11_file 23 = .ok (.iconst 1, 1) := by decide +kernel
set_option maxRecDepth 20000 in
theorem dX11_file_24 : decode cX11_file 24 = .ok (.bipush 120, 2) := by decide +kernel
set_option maxRecDepth 20000 in
theorem dX11_file_26 : decode cX11_file 26 = .ok (.invokestatic 71, 3) := by decide +kernel
set_option maxRecDepth 20000 in
theorem dX11_file_29 : decode cX11_file 29 = .ok (.ifCond .ne 5, 3) := by decide +kernel
set_option maxRecDepth 20000 in
theorem dX11_file_32 : decode cX11_file 32 = .ok (.iconst 0, 1) := by decide +kernel
set_option maxRecDepth 20000 in
theorem dX11_file_33 : decode cX11_file 33 = .ok (.ireturn, 1) := by decide +kernel
set_option maxRecDepth 20000 in
theorem dX11_file_34 : decode cX11_file 34 = .ok (.aload 4, 2) := by decide +kernel
set_option maxRecDepth 20000 in
theorem dX11_file_36 : decode cX11_file 36 = .ok (.getfield 118, 3) := by decide +kernel
set_option maxRecDepth 20000 in
theorem dX11_file_39 : decode cX11_file 39 = .ok (.iload_n 2, 1) := by decide +kernel
set_option maxRecDepth 20000 in
theorem dX11_file_40 : decode cX11_file 40 = .ok (.invokevirtual 122, 3) := by decide +kernel
set_option maxRecDepth 20000 in
theorem dX11_file_43 : decode cX11_file 43 = .ok (.astore 5, 2) := by decide +kernel
set_option maxRecDepth 20000 in
theorem dX11_file_45 : decode cX11_file 45 = .ok (.aload 5, 2) := by decide +kernel
set_option maxRecDepth 20000 in
theorem dX11_file_47 : decode cX11_file 47 = .ok (.ifnonnull 5, 3) := by decide +kernel
set_option maxRecDepth 20000 in
theorem dX11_file_50 : decode cX11_file 50 = .ok (.iconst 0, 1) := by decide +kernel
set_option maxRecDepth 20000 in
theorem dX11_file_51 : decode cX11_file 51 = .ok (.ireturn, 1) := by decide +kernel
set_option maxRecDepth 20000 in
theorem dX11_file_52 : decode cX11_file 52 = .ok (.aload 5, 2) := by decide +kernel
set_option maxRecDepth 20000 in
theorem dX11_file_54 : decode cX11_file 54 = .ok (.iload_n 3, 1) := by decide +kernel
set_option maxRecDepth 20000 in
theorem dX11_file_55 : decode cX11_file 55 = .ok (.invokevirtual 128, 3) := by decide +kernel
set_option maxRecDepth 20000 in
theorem dX11_file_58 : decode cX11_file 58 = .ok (.iconst 1, 1) := by decide +kernel
set_option maxRecDepth 20000 in
theorem dX11_file_59 : decode cX11_file 59 = .ok (.ireturn, 1) := by decide +kernel
set_option maxRecDepth 20000 in
theorem dX11_record_0 : decode cX11_record 0 = .ok (.aload_n 0, 1) := by decide +kernel
set_option maxRecDepth 20000 in
theorem dX11_record_1 : decode cX11_record 1 = .ok (.iload_n 1, 1) := by decide +kernel
set_option maxRecDepth 20000 in
theorem dX11_record_2 : decode cX11_record 2 = .ok (.invokevirtual 82, 3) := by decide +kernel
set_option maxRecDepth 20000 in
theorem dX11_record_5 : decode cX11_record 5 = .ok (.astore 4, 2) := by decide +kernel
set_option maxRecDepth 20000 in
theorem dX11_record_7 : decode cX11_record 7 = .ok (.aload 4, 2) := by decide +kernel
set_option maxRecDepth 20000 in
theorem dX11_record_9 : decode cX11_record 9 = .ok (.ifnonnull 7, 3) := by decide +kernel
set_option maxRecDepth 20000 in
theorem dX11_record_12 : decode cX11_record 12 = .ok (.aconst_null, 1) := by decide +kernel
set_option maxRecDepth 20000 in
theorem dX11_record_13 : decode cX11_record 13 = .ok (.goto 12, 3) := by decide +kernel
set_option maxRecDepth 20000 in
theorem dX11_record_16 : decode cX11_record 16 = .ok (.aload 4, 2) := by decide +kernel
set_option maxRecDepth 20000 in
theorem dX11_record_18 : decode cX11_record 18 = .ok (.getfield 118, 3) := by decide +kernel
set_option maxRecDepth 20000 in
theorem dX11_record_21 : decode cX11_record 21 = .ok (.iload_n 2, 1) := by decide +kernel
set_option maxRecDepth 20000 in
theorem dX11_record_22 : decode cX11_record 22 = .ok (.invokevirtual 131, 3) := by decide +kernel
set_option maxRecDepth 20000 in
theorem dX11_record_25 : decode cX11_record 25 = .ok (.astore 5, 2) := by decide +kernel
set_option maxRecDepth 20000 in
theorem dX11_record_27 : decode cX11_record 27 = .ok (.aload 5, 2) := by decide +kernel
set_option maxRecDepth 20000 in
theorem dX11_record_29 : decode cX11_record 29 = .ok (.ifnull 18, 3) := by decide +kernel
set_option maxRecDepth 20000 in
theorem dX11_record_32 : decode cX11_record 32 = .ok (.iload_n 3, 1) := by decide +kernel
set_option maxRecDepth 20000 in
theorem dX11_record_33 : decode cX11_record 33 = .ok (.iconst 0, 1) := by decide +kernel
set_option maxRecDepth 20000 in
theorem dX11_record_34 : decode cX11_record 34 = .ok (.aload 5, 2) := by decide +kernel
set_option maxRecDepth 20000 in
theorem dX11_record_36 : decode cX11_record 36 = .ok (.getfield 54, 3) := by decide +kernel
set_option maxRecDepth 20000 in
theorem dX11_record_39 : decode cX11_record 39 = .ok (.iconst 1, 1) := by decide +kernel
set_option maxRecDepth 20000 in
theorem dX11_record_40 : decode cX11_record 40 = .ok (.isub, 1) := by decide +kernel
set_option maxRecDepth 20000 in
theorem dX11_record_41 : decode cX11_record 41 = .ok (.invokestatic 71, 3) := by decide +kernel
set_option maxRecDepth 20000 in
theorem dX11_record_44 : decode cX11_record 44 = .ok (.ifCond .ne 7, 3) := by decide +kernel
set_option maxRecDepth 20000 in
theorem dX11_record_47 : decode cX11_record 47 = .ok (.iconst (-1), 1) := by decide +kernel
set_option maxRecDepth 20000 in
theorem dX11_record_48 : decode cX11_record 48 = .ok (.goto 9, 3) := by decide +kernel
set_option maxRecDepth 20000 in
theorem dX11_record_51 : decode cX11_record 51 = .ok (.aload 5, 2) := by decide +kernel
set_option maxRecDepth 20000 in
theorem dX11_record_53 : decode cX11_record 53 = .ok (.iload_n 3, 1) := by decide +kernel
set_option maxRecDepth 20000 in
theorem dX11_record_54 : decode cX11_record 54 = .ok (.invokevirtual 134, 3) := by decide +kernel
set_option maxRecDepth 20000 in
theorem dX11_record_57 : decode cX11_record 57 = .ok (.ireturn, 1) := by decide +kernel
set_option maxRecDepth 20000 in
theorem dX11_queue_0 : decode cX11_queue 0 = .ok (.aload_n 0, 1) := by decide +kernel
set_option maxRecDepth 20000 in
theorem dX11_queue_1 : decode cX11_queue 1 = .ok (.iload_n 1, 1) := by decide +kernel
set_option maxRecDepth 20000 in
theorem dX11_queue_2 : decode cX11_queue 2 = .ok (.invokevirtual 82, 3) := by decide +kernel
set_option maxRecDepth 20000 in
theorem dX11_queue_5 : decode cX11_queue 5 = .ok (.astore_n 3, 1) := by decide +kernel
set_option maxRecDepth 20000 in
theorem dX11_queue_6 : decode cX11_queue 6 = .ok (.aload_n 3, 1) := by decide +kernel
set_option maxRecDepth 20000 in
theorem dX11_queue_7 : decode cX11_queue 7 = .ok (.ifnull 24, 3) := by decide +kernel
set_option maxRecDepth 20000 in
theorem dX11_queue_10 : decode cX11_queue 10 = .ok (.iload_n 2, 1) := by decide +kernel
set_option maxRecDepth 20000 in
theorem dX11_queue_11 : decode cX11_queue 11 = .ok (.iconst 0, 1) := by decide +kernel
set_option maxRecDepth 20000 in
theorem dX11_queue_12 : decode cX11_queue 12 = .ok (.ldc 63, 2) := by decide +kernel
set_option maxRecDepth 20000 in
theorem dX11_queue_14 : decode cX11_queue 14 = .ok (.invokestatic 71, 3) := by decide +kernel
set_option maxRecDepth 20000 in
theorem dX11_queue_17 : decode cX11_queue 17 = .ok (.ifCond .eq 14, 3) := by decide +kernel
set_option maxRecDepth 20000 in
theorem dX11_queue_20 : decode cX11_queue 20 = .ok (.aload_n 3, 1) := by decide +kernel
set_option maxRecDepth 20000 in
theorem dX11_queue_21 : decode cX11_queue 21 = .ok (.getfield 137, 3) := by decide +kernel
set_option maxRecDepth 20000 in
theorem dX11_queue_24 : decode cX11_queue 24 = .ok (.iload_n 2, 1) := by decide +kernel
set_option maxRecDepth 20000 in
theorem dX11_queue_25 : decode cX11_queue 25 = .ok (.invokevirtual 131, 3) := by decide +kernel
set_option maxRecDepth 20000 in
theorem dX11_queue_28 : decode cX11_queue 28 = .ok (.ifnull 5, 3) := by decide +kernel
set_option maxRecDepth 20000 in
theorem dX11_queue_31 : decode cX11_queue 31 = .ok (.iconst 0, 1) := by decide +kernel
set_option maxRecDepth 20000 in
theorem dX11_queue_32 : decode cX11_queue 32 = .ok (.ireturn, 1) := by decide +kernel
set_option maxRecDepth 20000 in
theorem dX11_queue_33 : decode cX11_queue 33 = .ok (.aload_n 3, 1) := by decide +kernel
set_option maxRecDepth 20000 in
theorem dX11_queue_34 : decode cX11_queue 34 = .ok (.getfield 137, 3) := by decide +kernel
set_option maxRecDepth 20000 in
theorem dX11_queue_37 : decode cX11_queue 37 = .ok (.iload_n 2, 1) := by decide +kernel
set_option maxRecDepth 20000 in
theorem dX11_queue_38 : decode cX11_queue 38 = .ok (.invokevirtual 122, 3) := by decide +kernel
set_option maxRecDepth 20000 in
theorem dX11_queue_41 : decode cX11_queue 41 = .ok (.ifnull 7, 3) := by decide +kernel
set_option maxRecDepth 20000 in
theorem dX11_queue_44 : decode cX11_queue 44 = .ok (.iconst 1, 1) := by decide +kernel
set_option maxRecDepth 20000 in
theorem dX11_queue_45 : decode cX11_queue 45 = .ok (.goto 4, 3) := by decide +kernel
set_option maxRecDepth 20000 in
theorem dX11_queue_48 : decode cX11_queue 48 = .ok (.iconst 0, 1) := by decide +kernel
set_option maxRecDepth 20000 in
theorem dX11_queue_49 : decode cX11_queue 49 = .ok (.ireturn, 1) := by decide +kernel
set_option maxRecDepth 20000 in
theorem dX11_push_0 : decode cX11_push 0 = .ok (.aload_n 0, 1) := by decide +kernel
set_option maxRecDepth 20000 in
theorem dX11_push_1 : decode cX11_push 1 = .ok (.iload_n 1, 1) := by decide +kernel
set_option maxRecDepth 20000 in
theorem dX11_push_2 : decode cX11_push 2 = .ok (.invokevirtual 82, 3) := by decide +kernel
set_option maxRecDepth 20000 in
theorem dX11_push_5 : decode cX11_push 5 = .ok (.astore 4, 2) := by decide +kernel
set_option maxRecDepth 20000 in
theorem dX11_push_7 : decode cX11_push 7 = .ok (.aload 4, 2) := by decide +kernel
set_option maxRecDepth 20000 in
theorem dX11_push_9 : decode cX11_push 9 = .ok (.ifnonnull 7, 3) := by decide +kernel
set_option maxRecDepth 20000 in
theorem dX11_push_12 : decode cX11_push 12 = .ok (.aconst_null, 1) := by decide +kernel
set_option maxRecDepth 20000 in
theorem dX11_push_13 : decode cX11_push 13 = .ok (.goto 12, 3) := by decide +kernel
set_option maxRecDepth 20000 in
theorem dX11_push_16 : decode cX11_push 16 = .ok (.aload 4, 2) := by decide +kernel
set_option maxRecDepth 20000 in
theorem dX11_push_18 : decode cX11_push 18 = .ok (.getfield 137, 3) := by decide +kernel
set_option maxRecDepth 20000 in
theorem dX11_push_21 : decode cX11_push 21 = .ok (.iload_n 2, 1) := by decide +kernel
set_option maxRecDepth 20000 in
theorem dX11_push_22 : decode cX11_push 22 = .ok (.invokevirtual 131, 3) := by decide +kernel
set_option maxRecDepth 20000 in
theorem dX11_push_25 : decode cX11_push 25 = .ok (.astore 5, 2) := by decide +kernel
set_option maxRecDepth 20000 in
theorem dX11_push_27 : decode cX11_push 27 = .ok (.aload 5, 2) := by decide +kernel
set_option maxRecDepth 20000 in
theorem dX11_push_29 : decode cX11_push 29 = .ok (.ifnull 13, 3) := by decide +kernel
set_option maxRecDepth 20000 in
theorem dX11_push_32 : decode cX11_push 32 = .ok (.aload 5, 2) := by decide +kernel
set_option maxRecDepth 20000 in
theorem dX11_push_34 : decode cX11_push 34 = .ok (.getfield 54, 3) := by decide +kernel
set_option maxRecDepth 20000 in
theorem dX11_push_37 : decode cX11_push 37 = .ok (.bipush 40, 2) := by decide +kernel
set_option maxRecDepth 20000 in
theorem dX11_push_39 : decode cX11_push 39 = .ok (.if_icmp .lt 5, 3) := by decide +kernel
set_option maxRecDepth 20000 in
theorem dX11_push_42 : decode cX11_push 42 = .ok (.iconst (-1), 1) := by decide +kernel
set_option maxRecDepth 20000 in
theorem dX11_push_43 : decode cX11_push 43 = .ok (.ireturn, 1) := by decide +kernel
set_option maxRecDepth 20000 in
theorem dX11_push_44 : decode cX11_push 44 = .ok (.aload 5, 2) := by decide +kernel
set_option maxRecDepth 20000 in
theorem dX11_push_46 : decode cX11_push 46 = .ok (.iload_n 3, 1) := by decide +kernel
set_option maxRecDepth 20000 in
theorem dX11_push_47 : decode cX11_push 47 = .ok (.ldc 63, 2) := by decide +kernel
set_option maxRecDepth 20000 in
theorem dX11_push_49 : decode cX11_push 49 = .ok (.iand, 1) := by decide +kernel
set_option maxRecDepth 20000 in
theorem dX11_push_50 : decode cX11_push 50 = .ok (.invokevirtual 140, 3) := by decide +kernel
set_option maxRecDepth 20000 in
theorem dX11_push_53 : decode cX11_push 53 = .ok (.aload 5, 2) := by decide +kernel
set_option maxRecDepth 20000 in
theorem dX11_push_55 : decode cX11_push 55 = .ok (.getfield 54, 3) := by decide +kernel
set_option maxRecDepth 20000 in
theorem dX11_push_58 : decode cX11_push 58 = .ok (.ireturn, 1) := by decide +kernel
set_option maxRecDepth 20000 in
theorem dX11_name_0 : decode cX11_name 0 = .ok (.aload_n 0, 1) := by decide +kernel
set_option maxRecDepth 20000 in
theorem dX11_name_1 : decode cX11_name 1 = .ok (.iload_n 1, 1) := by decide +kernel
set_option maxRecDepth 20000 in
theorem dX11_name_2 : decode cX11_name 2 = .ok (.invokevirtual 82, 3) := by decide +kernel
set_option maxRecDepth 20000 in
theorem dX11_name_5 : decode cX11_name 5 = .ok (.astore_n 3, 1) := by decide +kernel
set_option maxRecDepth 20000 in
theorem dX11_name_6 : decode cX11_name 6 = .ok (.aload_n 3, 1) := by decide +kernel
set_option maxRecDepth 20000 in
theorem dX11_name_7 : decode cX11_name 7 = .ok (.ifnull 38, 3) := by decide +kernel
set_option maxRecDepth 20000 in
theorem dX11_name_10 : decode cX11_name 10 = .ok (.aload_n 0, 1) := by decide +kernel
set_option maxRecDepth 20000 in
theorem dX11_name_11 : decode cX11_name 11 = .ok (.getfield 14, 3) := by decide +kernel
set_option maxRecDepth 20000 in
theorem dX11_name_14 : decode cX11_name 14 = .ok (.getfield 54, 3) := by decide +kernel
set_option maxRecDepth 20000 in
theorem dX11_name_17 : decode cX11_name 17 = .ok (.bipush 40, 2) := by decide +kernel
set_option maxRecDepth 20000 in
theorem dX11_name_19 : decode cX11_name 19 = .ok (.if_icmp .gt 26, 3) := by decide +kernel
set_option maxRecDepth 20000 in
theorem dX11_name_22 : decode cX11_name 22 = .ok (.iload_n 2, 1) := by decide +kernel
set_option maxRecDepth 20000 in
theorem dX11_name_23 : decode cX11_name 23 = .ok (.iconst 0, 1) := by decide +kernel
set_option maxRecDepth 20000 in
theorem dX11_name_24 : decode cX11_name 24 = .ok (.bipush 6, 2) := by decide +kernel
set_option maxRecDepth 20000 in
theorem dX11_name_26 : decode cX11_name 26 = .ok (.invokestatic 71, 3) := by decide +kernel
set_option maxRecDepth 20000 in
theorem dX11_name_29 : decode cX11_name 29 = .ok (.ifCond .ne 18, 3) := by decide +kernel
set_option maxRecDepth 20000 in
theorem dX11_name_32 : decode cX11_name 32 = .ok (.iload_n 2, 1) := by decide +kernel
set_option maxRecDepth 20000 in
theorem dX11_name_33 : decode cX11_name 33 = .ok (.sipush 128, 3) := by decide +kernel
set_option maxRecDepth 20000 in
theorem dX11_name_36 : decode cX11_name 36 = .ok (.sipush 255, 3) := by decide +kernel
set_option maxRecDepth 20000 in
theorem dX11_name_39 : decode cX11_name 39 = .ok (.invokestatic 71, 3) := by decide +kernel
set_option maxRecDepth 20000 in
theorem dX11_name_42 : decode cX11_name 42 = .ok (.ifCond .ne 5, 3) := by decide +kernel
set_option maxRecDepth 20000 in
theorem dX11_name_45 : decode cX11_name 45 = .ok (.iconst 0, 1) := by decide +kernel
set_option maxRecDepth 20000 in
theorem dX11_name_46 : decode cX11_name 46 = .ok (.ireturn, 1) := by decide +kernel
set_option maxRecDepth 20000 in
theorem dX11_name_47 : decode cX11_name 47 = .ok (.aload_n 3, 1) := by decide +kernel
set_option maxRecDepth 20000 in
theorem dX11_name_48 : decode cX11_name 48 = .ok (.getfield 143, 3) := by decide +kernel
set_option maxRecDepth 20000 in
theorem dX11_name_51 : decode cX11_name 51 = .ok (.iload_n 2, 1) := by decide +kernel
set_option maxRecDepth 20000 in
theorem dX11_name_52 : decode cX11_name 52 = .ok (.invokevirtual 122, 3) := by decide +kernel
set_option maxRecDepth 20000 in
theorem dX11_name_55 : decode cX11_name 55 = .ok (.astore 4, 2) := by decide +kernel
set_option maxRecDepth 20000 in
theorem dX11_name_57 : decode cX11_name 57 = .ok (.aload 4, 2) := by decide +kernel
set_option maxRecDepth 20000 in
theorem dX11_name_59 : decode cX11_name 59 = .ok (.ifnonnull 5, 3) := by decide +kernel
set_option maxRecDepth 20000 in
theorem dX11_name_62 : decode cX11_name 62 = .ok (.iconst 0, 1) := by decide +kernel
set_option maxRecDepth 20000 in
theorem dX11_name_63 : decode cX11_name 63 = .ok (.ireturn, 1) := by decide +kernel
set_option maxRecDepth 20000 in
theorem dX11_name_64 : decode cX11_name 64 = .ok (.aload 4, 2) := by decide +kernel
set_option maxRecDepth 20000 in
theorem dX11_name_66 : decode cX11_name 66 = .ok (.aload_n 0, 1) := by decide +kernel
set_option maxRecDepth 20000 in
theorem dX11_name_67 : decode cX11_name 67 = .ok (.getfield 14, 3) := by decide +kernel
set_option maxRecDepth 20000 in
theorem dX11_name_70 : decode cX11_name 70 = .ok (.iconst 0, 1) := by decide +kernel
set_option maxRecDepth 20000 in
theorem dX11_name_71 : decode cX11_name 71 = .ok (.aload_n 0, 1) := by decide +kernel
set_option maxRecDepth 20000 in
theorem dX11_name_72 : decode cX11_name 72 = .ok (.getfield 14, 3) := by decide +kernel
set_option maxRecDepth 20000 in
theorem dX11_name_75 : decode cX11_name 75 = .ok (.getfield 54, 3) := by decide +kernel
set_option maxRecDepth 20000 in
theorem dX11_name_78 : decode cX11_name 78 = .ok (.invokevirtual 146, 3) := by decide +kernel
set_option maxRecDepth 20000 in
theorem dX11_name_81 : decode cX11_name 81 = .ok (.aload_n 0, 1) := by decide +kernel
set_option maxRecDepth 20000 in
theorem dX11_name_82 : decode cX11_name 82 = .ok (.getfield 14, 3) := by decide +kernel
set_option maxRecDepth 20000 in
theorem dX11_name_85 : decode cX11_name 85 = .ok (.invokevirtual 150, 3) := by decide +kernel
set_option maxRecDepth 20000 in
theorem dX11_name_88 : decode cX11_name 88 = .ok (.iconst 1, 1) := by decide +kernel
set_option maxRecDepth 20000 in
theorem dX11_name_89 : decode cX11_name 89 = .ok (.ireturn, 1) := by decide +kernel
set_option maxRecDepth 20000 in
theorem dX11_rule_0 : decode cX11_rule 0 = .ok (.aload_n 0, 1) := by decide +kernel
set_option maxRecDepth 20000 in
theorem dX11_rule_1 : decode cX11_rule 1 = .ok (.iload_n 1, 1) := by decide +kernel
set_option maxRecDepth 20000 in
theorem dX11_rule_2 : decode cX11_rule 2 = .ok (.invokevirtual 82, 3) := by decide +kernel
set_option maxRecDepth 20000 in
theorem dX11_rule_5 : decode cX11_rule 5 = .ok (.astore 6, 2) := by decide +kernel
set_option maxRecDepth 20000 in
theorem dX11_rule_7 : decode cX11_rule 7 = .ok (.aload 6, 2) := by decide +kernel
set_option maxRecDepth 20000 in
theorem dX11_rule_9 : decode cX11_rule 9 = .ok (.ifnull 13, 3) := by decide +kernel
set_option maxRecDepth 20000 in
theorem dX11_rule_12 : decode cX11_rule 12 = .ok (.iload_n 2, 1) := by decide +kernel
set_option maxRecDepth 20000 in
theorem dX11_rule_13 : decode cX11_rule 13 = .ok (.iconst 0, 1) := by decide +kernel
set_option maxRecDepth 20000 in
theorem dX11_rule_14 : decode cX11_rule 14 = .ok (.bipush 6, 2) := by decide +kernel
set_option maxRecDepth 20000 in
theorem dX11_rule_16 : decode cX11_rule 16 = .ok (.invokestatic 71, 3) := by decide +kernel
set_option maxRecDepth 20000 in
theorem dX11_rule_19 : decode cX11_rule 19 = .ok (.ifCond .ne 5, 3) := by decide +kernel
set_option maxRecDepth 20000 in
theorem dX11_rule_22 : decode cX11_rule 22 = .ok (.iconst 0, 1) := by decide +kernel
set_option maxRecDepth 20000 in
theorem dX11_rule_23 : decode cX11_rule 23 = .ok (.ireturn, 1) := by decide +kernel
set_option maxRecDepth 20000 in
theorem dX11_rule_24 : decode cX11_rule 24 = .ok (.iload_n 3, 1) := by decide +kernel
set_option maxRecDepth 20000 in
theorem dX11_rule_25 : decode cX11_rule 25 = .ok (.iconst 0, 1) := by decide +kernel
set_option maxRecDepth 20000 in
theorem dX11_rule_26 : decode cX11_rule 26 = .ok (.ldc 63, 2) := by decide +kernel
set_option maxRecDepth 20000 in
theorem dX11_rule_28 : decode cX11_rule 28 = .ok (.invokestatic 71, 3) := by decide +kernel
set_option maxRecDepth 20000 in
theorem dX11_rule_31 : decode cX11_rule 31 = .ok (.ifCond .eq 25, 3) := by decide +kernel
set_option maxRecDepth 20000 in
theorem dX11_rule_34 : decode cX11_rule 34 = .ok (.iload 4, 2) := by decide +kernel
set_option maxRecDepth 20000 in
theorem dX11_rule_36 : decode cX11_rule 36 = .ok (.iconst 0, 1) := by decide +kernel
set_option maxRecDepth 20000 in
theorem dX11_rule_37 : decode cX11_rule 37 = .ok (.ldc 63, 2) := by decide +kernel
set_option maxRecDepth 20000 in
theorem dX11_rule_39 : decode cX11_rule 39 = .ok (.invokestatic 71, 3) := by decide +kernel
set_option maxRecDepth 20000 in
theorem dX11_rule_42 : decode cX11_rule 42 = .ok (.ifCond .eq 14, 3) := by decide +kernel
set_option maxRecDepth 20000 in
theorem dX11_rule_45 : decode cX11_rule 45 = .ok (.iload 5, 2) := by decide +kernel
set_option maxRecDepth 20000 in
theorem dX11_rule_47 : decode cX11_rule 47 = .ok (.iconst 0, 1) := by decide +kernel
set_option maxRecDepth 20000 in
theorem dX11_rule_48 : decode cX11_rule 48 = .ok (.ldc 63, 2) := by decide +kernel
set_option maxRecDepth 20000 in
theorem dX11_rule_50 : decode cX11_rule 50 = .ok (.invokestatic 71, 3) := by decide +kernel
set_option maxRecDepth 20000 in
theorem dX11_rule_53 : decode cX11_rule 53 = .ok (.ifCond .ne 5, 3) := by decide +kernel
set_option maxRecDepth 20000 in
theorem dX11_rule_56 : decode cX11_rule 56 = .ok (.iconst 0, 1) := by decide +kernel
set_option maxRecDepth 20000 in
theorem dX11_rule_57 : decode cX11_rule 57 = .ok (.ireturn, 1) := by decide +kernel
set_option maxRecDepth 20000 in
theorem dX11_rule_58 : decode cX11_rule 58 = .ok (.aload 6, 2) := by decide +kernel
set_option maxRecDepth 20000 in
theorem dX11_rule_60 : decode cX11_rule 60 = .ok (.iload_n 2, 1) := by decide +kernel
set_option maxRecDepth 20000 in
theorem dX11_rule_61 : decode cX11_rule 61 = .ok (.iload_n 3, 1) := by decide +kernel
set_option maxRecDepth 20000 in
theorem dX11_rule_62 : decode cX11_rule 62 = .ok (.iload 4, 2) := by decide +kernel
set_option maxRecDepth 20000 in
theorem dX11_rule_64 : decode cX11_rule 64 = .ok (.iload 5, 2) := by decide +kernel
set_option maxRecDepth 20000 in
theorem dX11_rule_66 : decode cX11_rule 66 = .ok (.invokevirtual 153, 3) := by decide +kernel
set_option maxRecDepth 20000 in
theorem dX11_rule_69 : decode cX11_rule 69 = .ok (.ireturn, 1) := by decide +kernel
set_option maxRecDepth 20000 in
theorem dX11_busy_0 : decode cX11_busy 0 = .ok (.aload_n 0, 1) := by decide +kernel
set_option maxRecDepth 20000 in
theorem dX11_busy_1 : decode cX11_busy 1 = .ok (.iload_n 1, 1) := by decide +kernel
set_option maxRecDepth 20000 in
theorem dX11_busy_2 : decode cX11_busy 2 = .ok (.invokevirtual 82, 3) := by decide +kernel
set_option maxRecDepth 20000 in
theorem dX11_busy_5 : decode cX11_busy 5 = .ok (.astore_n 3, 1) := by decide +kernel
set_option maxRecDepth 20000 in
theorem dX11_busy_6 : decode cX11_busy 6 = .ok (.aload_n 3, 1) := by decide +kernel
set_option maxRecDepth 20000 in
theorem dX11_busy_7 : decode cX11_busy 7 = .ok (.ifnull 13, 3) := by decide +kernel
set_option maxRecDepth 20000 in
theorem dX11_busy_10 : decode cX11_busy 10 = .ok (.iload_n 2, 1) := by decide +kernel
set_option maxRecDepth 20000 in
theorem dX11_busy_11 : decode cX11_busy 11 = .ok (.iconst 0, 1) := by decide +kernel
set_option maxRecDepth 20000 in
theorem dX11_busy_12 : decode cX11_busy 12 = .ok (.bipush 9, 2) := by decide +kernel
set_option maxRecDepth 20000 in
theorem dX11_busy_14 : decode cX11_busy 14 = .ok (.invokestatic 71, 3) := by decide +kernel
set_option maxRecDepth 20000 in
theorem dX11_busy_17 : decode cX11_busy 17 = .ok (.ifCond .ne 5, 3) := by decide +kernel
set_option maxRecDepth 20000 in
theorem dX11_busy_20 : decode cX11_busy 20 = .ok (.iconst 0, 1) := by decide +kernel
set_option maxRecDepth 20000 in
theorem dX11_busy_21 : decode cX11_busy 21 = .ok (.ireturn, 1) := by decide +kernel
set_option maxRecDepth 20000 in
theorem dX11_busy_22 : decode cX11_busy 22 = .ok (.aload_n 3, 1) := by decide +kernel
set_option maxRecDepth 20000 in
theorem dX11_busy_23 : decode cX11_busy 23 = .ok (.iload_n 2, 1) := by decide +kernel
set_option maxRecDepth 20000 in
theorem dX11_busy_24 : decode cX11_busy 24 = .ok (.putfield 156, 3) := by decide +kernel
set_option maxRecDepth 20000 in
theorem dX11_busy_27 : decode cX11_busy 27 = .ok (.iconst 1, 1) := by decide +kernel
set_option maxRecDepth 20000 in
theorem dX11_busy_28 : decode cX11_busy 28 = .ok (.ireturn, 1) := by decide +kernel
set_option maxRecDepth 20000 in
theorem dX11_serve_0 : decode cX11_serve 0 = .ok (.aload_n 0, 1) := by decide +kernel
set_option maxRecDepth 20000 in
theorem dX11_serve_1 : decode cX11_serve 1 = .ok (.iload_n 1, 1) := by decide +kernel
set_option maxRecDepth 20000 in
theorem dX11_serve_2 : decode cX11_serve 2 = .ok (.invokevirtual 82, 3) := by decide +kernel
set_option maxRecDepth 20000 in
theorem dX11_serve_5 : decode cX11_serve 5 = .ok (.astore_n 2, 1) := by decide +kernel
set_option maxRecDepth 20000 in
theorem dX11_serve_6 : decode cX11_serve 6 = .ok (.aload_n 2, 1) := by decide +kernel
set_option maxRecDepth 20000 in
theorem dX11_serve_7 : decode cX11_serve 7 = .ok (.ifnull 10, 3) := by decide +kernel
set_option maxRecDepth 20000 in
theorem dX11_serve_10 : decode cX11_serve 10 = .ok (.aload_n 0, 1) := by decide +kernel
set_option maxRecDepth 20000 in
theorem dX11_serve_11 : decode cX11_serve 11 = .ok (.invokevirtual 159, 3) := by decide +kernel
set_option maxRecDepth 20000 in
theorem dX11_serve_14 : decode cX11_serve 14 = .ok (.ifCond .ne 5, 3) := by decide +kernel
set_option maxRecDepth 20000 in
theorem dX11_serve_17 : decode cX11_serve 17 = .ok (.iconst (-1), 1) := by decide +kernel
set_option maxRecDepth 20000 in
theorem dX11_serve_18 : decode cX11_serve 18 = .ok (.ireturn, 1) := by decide +kernel
set_option maxRecDepth 20000 in
theorem dX11_serve_19 : decode cX11_serve 19 = .ok (.aload_n 2, 1) := by decide +kernel
set_option maxRecDepth 20000 in
theorem dX11_serve_20 : decode cX11_serve 20 = .ok (.aload_n 0, 1) := by decide +kernel
set_option maxRecDepth 20000 in
theorem dX11_serve_21 : decode cX11_serve 21 = .ok (.getfield 14, 3) := by decide +kernel
set_option maxRecDepth 20000 in
theorem dX11_serve_24 : decode cX11_serve 24 = .ok (.aload_n 0, 1) := by decide +kernel
set_option maxRecDepth 20000 in
theorem dX11_serve_25 : decode cX11_serve 25 = .ok (.getfield 18, 3) := by decide +kernel
set_option maxRecDepth 20000 in
theorem dX11_serve_28 : decode cX11_serve 28 = .ok (.invokestatic 163, 3) := by decide +kernel
set_option maxRecDepth 20000 in
theorem dX11_serve_31 : decode cX11_serve 31 = .ok (.pop, 1) := by decide +kernel
set_option maxRecDepth 20000 in
theorem dX11_serve_32 : decode cX11_serve 32 = .ok (.aload_n 0, 1) := by decide +kernel
set_option maxRecDepth 20000 in
theorem dX11_serve_33 : decode cX11_serve 33 = .ok (.getfield 14, 3) := by decide +kernel
set_option maxRecDepth 20000 in
theorem dX11_serve_36 : decode cX11_serve 36 = .ok (.invokevirtual 150, 3) := by decide +kernel
set_option maxRecDepth 20000 in
theorem dX11_serve_39 : decode cX11_serve 39 = .ok (.aload_n 0, 1) := by decide +kernel
set_option maxRecDepth 20000 in
theorem dX11_serve_40 : decode cX11_serve 40 = .ok (.getfield 18, 3) := by decide +kernel
set_option maxRecDepth 20000 in
theorem dX11_serve_43 : decode cX11_serve 43 = .ok (.getfield 54, 3) := by decide +kernel
set_option maxRecDepth 20000 in
theorem dX11_serve_46 : decode cX11_serve 46 = .ok (.ireturn, 1) := by decide +kernel
set_option maxRecDepth 20000 in
theorem dX11_tapeIsPdu_0 : decode cX11_tapeIsPdu 0 = .ok (.aload_n 0, 1) := by decide +kernel
set_option maxRecDepth 20000 in
theorem dX11_tapeIsPdu_1 : decode cX11_tapeIsPdu 1 = .ok (.getfield 14, 3) := by decide +kernel
set_option maxRecDepth 20000 in
theorem dX11_tapeIsPdu_4 : decode cX11_tapeIsPdu 4 = .ok (.getfield 54, 3) := by decide +kernel
set_option maxRecDepth 20000 in
theorem dX11_tapeIsPdu_7 : decode cX11_tapeIsPdu 7 = .ok (.iconst 1, 1) := by decide +kernel
set_option maxRecDepth 20000 in
theorem dX11_tapeIsPdu_8 : decode cX11_tapeIsPdu 8 = .ok (.sipush 253, 3) := by decide +kernel
set_option maxRecDepth 20000 in
theorem dX11_tapeIsPdu_11 : decode cX11_tapeIsPdu 11 = .ok (.invokestatic 71, 3) := by decide +kernel
set_option maxRecDepth 20000 in
theorem dX11_tapeIsPdu_14 : decode cX11_tapeIsPdu 14 = .ok (.ireturn, 1) := by decide +kernel
set_option maxRecDepth 20000 in
theorem dX11_answer_0 : decode cX11_answer 0 = .ok (.aload_n 0, 1) := by decide +kernel
set_option maxRecDepth 20000 in
theorem dX11_answer_1 : decode cX11_answer 1 = .ok (.getfield 18, 3) := by decide +kernel
set_option maxRecDepth 20000 in
theorem dX11_answer_4 : decode cX11_answer 4 = .ok (.iload_n 1, 1) := by decide +kernel
set_option maxRecDepth 20000 in
theorem dX11_answer_5 : decode cX11_answer 5 = .ok (.invokevirtual 169, 3) := by decide +kernel
set_option maxRecDepth 20000 in
theorem dX11_answer_8 : decode cX11_answer 8 = .ok (.ireturn, 1) := by decide +kernel
set_option maxRecDepth 20000 in
theorem dX11_settings_0 : decode cX11_settings 0 = .ok (.iload_n 1, 1) := by decide +kernel
set_option maxRecDepth 20000 in
theorem dX11_settings_1 : decode cX11_settings 1 = .ok (.iconst 1, 1) := by decide +kernel
set_option maxRecDepth 20000 in
theorem dX11_settings_2 : decode cX11_settings 2 = .ok (.bipush 9, 2) := by decide +kernel
set_option maxRecDepth 20000 in
theorem dX11_settings_4 : decode cX11_settings 4 = .ok (.invokestatic 71, 3) := by decide +kernel
set_option maxRecDepth 20000 in
theorem dX11_settings_7 : decode cX11_settings 7 = .ok (.ifCond .eq 26, 3) := by decide +kernel
set_option maxRecDepth 20000 in
theorem dX11_settings_10 : decode cX11_settings 10 = .ok (.iload_n 2, 1) := by decide +kernel
set_option maxRecDepth 20000 in
theorem dX11_settings_11 : decode cX11_settings 11 = .ok (.bipush 20, 2) := by decide +kernel
set_option maxRecDepth 20000 in
theorem dX11_settings_13 : decode cX11_settings 13 = .ok (.sipush 5000, 3) := by decide +kernel
set_option maxRecDepth 20000 in
theorem dX11_settings_16 : decode cX11_settings 16 = .ok (.invokestatic 71, 3) := by decide +kernel
set_option maxRecDepth 20000 in
theorem dX11_settings_19 : decode cX11_settings 19 = .ok (.ifCond .eq 14, 3) := by decide +kernel
set_option maxRecDepth 20000 in
theorem dX11_settings_22 : decode cX11_settings 22 = .ok (.iload_n 3, 1) := by decide +kernel
set_option maxRecDepth 20000 in
theorem dX11_settings_23 : decode cX11_settings 23 = .ok (.iconst 0, 1) := by decide +kernel
set_option maxRecDepth 20000 in
theorem dX11_settings_24 : decode cX11_settings 24 = .ok (.sipush 2000, 3) := by decide +kernel
set_option maxRecDepth 20000 in
theorem dX11_settings_27 : decode cX11_settings 27 = .ok (.invokestatic 71, 3) := by decide +kernel
set_option maxRecDepth 20000 in
theorem dX11_settings_30 : decode cX11_settings 30 = .ok (.ifCond .ne 5, 3) := by decide +kernel
set_option maxRecDepth 20000 in
theorem dX11_settings_33 : decode cX11_settings 33 = .ok (.iconst 0, 1) := by decide +kernel
set_option maxRecDepth 20000 in
theorem dX11_settings_34 : decode cX11_settings 34 = .ok (.ireturn, 1) := by decide +kernel
set_option maxRecDepth 20000 in
theorem dX11_settings_35 : decode cX11_settings 35 = .ok (.aload_n 0, 1) := by decide +kernel
set_option maxRecDepth 20000 in
theorem dX11_settings_36 : decode cX11_settings 36 = .ok (.getfield 47, 3) := by decide +kernel
set_option maxRecDepth 20000 in
theorem dX11_settings_39 : decode cX11_settings 39 = .ok (.iload_n 1, 1) := by decide +kernel
set_option maxRecDepth 20000 in
theorem dX11_settings_40 : decode cX11_settings 40 = .ok (.putfield 172, 3) := by decide +kernel
set_option maxRecDepth 20000 in
theorem dX11_settings_43 : decode cX11_settings 43 = .ok (.aload_n 0, 1) := by decide +kernel
set_option maxRecDepth 20000 in
theorem dX11_settings_44 : decode cX11_settings 44 = .ok (.getfield 47, 3) := by decide +kernel
set_option maxRecDepth 20000 in
theorem dX11_settings_47 : decode cX11_settings 47 = .ok (.iload_n 2, 1) := by decide +kernel
set_option maxRecDepth 20000 in
theorem dX11_settings_48 : decode cX11_settings 48 = .ok (.putfield 175, 3) := by decide +kernel
set_option maxRecDepth 20000 in
theorem dX11_settings_51 : decode cX11_settings 51 = .ok (.aload_n 0, 1) := by decide +kernel
set_option maxRecDepth 20000 in
theorem dX11_settings_52 : decode cX11_settings 52 = .ok (.getfield 47, 3) := by decide +kernel
set_option maxRecDepth 20000 in
theorem dX11_settings_55 : decode cX11_settings 55 = .ok (.iload_n 3, 1) := by decide +kernel
set_option maxRecDepth 20000 in
theorem dX11_settings_56 : decode cX11_settings 56 = .ok (.putfield 178, 3) := by decide +kernel
set_option maxRecDepth 20000 in
theorem dX11_settings_59 : decode cX11_settings 59 = .ok (.iconst 1, 1) := by decide +kernel
set_option maxRecDepth 20000 in
theorem dX11_settings_60 : decode cX11_settings 60 = .ok (.ireturn, 1) := by decide +kernel
set_option maxRecDepth 20000 in
theorem dX11_request_0 : decode cX11_request 0 = .ok (.iload_n 1, 1) := by decide +kernel
set_option maxRecDepth 20000 in
theorem dX11_request_1 : decode cX11_request 1 = .ok (.iconst 0, 1) := by decide +kernel
set_option maxRecDepth 20000 in
theorem dX11_request_2 : decode cX11_request 2 = .ok (.sipush 247, 3) := by decide +kernel
set_option maxRecDepth 20000 in
theorem dX11_request_5 : decode cX11_request 5 = .ok (.invokestatic 71, 3) := by decide +kernel
set_option maxRecDepth 20000 in
theorem dX11_request_8 : decode cX11_request 8 = .ok (.ifCond .eq 10, 3) := by decide +kernel
set_option maxRecDepth 20000 in
theorem dX11_request_11 : decode cX11_request 11 = .ok (.aload_n 0, 1) := by decide +kernel
set_option maxRecDepth 20000 in
theorem dX11_request_12 : decode cX11_request 12 = .ok (.invokevirtual 159, 3) := by decide +kernel
set_option maxRecDepth 20000 in
theorem dX11_request_15 : decode cX11_request 15 = .ok (.ifCond .ne 5, 3) := by decide +kernel
set_option maxRecDepth 20000 in
theorem dX11_request_18 : decode cX11_request 18 = .ok (.iconst (-1), 1) := by decide +kernel
set_option maxRecDepth 20000 in
theorem dX11_request_19 : decode cX11_request 19 = .ok (.ireturn, 1) := by decide +kernel
set_option maxRecDepth 20000 in
theorem dX11_request_20 : decode cX11_request 20 = .ok (.aload_n 0, 1) := by decide +kernel
set_option maxRecDepth 20000 in
theorem dX11_request_21 : decode cX11_request 21 = .ok (.getfield 47, 3) := by decide +kernel
set_option maxRecDepth 20000 in
theorem dX11_request_24 : decode cX11_request 24 = .ok (.iload_n 1, 1) := by decide +kernel
set_option maxRecDepth 20000 in
theorem dX11_request_25 : decode cX11_request 25 = .ok (.aload_n 0, 1) := by decide +kernel
set_option maxRecDepth 20000 in
theorem dX11_request_26 : decode cX11_request 26 = .ok (.getfield 14, 3) := by decide +kernel
set_option maxRecDepth 20000 in
theorem dX11_request_29 : decode cX11_request 29 = .ok (.invokevirtual 181, 3) := by decide +kernel
set_option maxRecDepth 20000 in
theorem dX11_request_32 : decode cX11_request 32 = .ok (.istore_n 2, 1) := by decide +kernel
set_option maxRecDepth 20000 in
theorem dX11_request_33 : decode cX11_request 33 = .ok (.iload_n 2, 1) := by decide +kernel
set_option maxRecDepth 20000 in
theorem dX11_request_34 : decode cX11_request 34 = .ok (.iconst (-1), 1) := by decide +kernel
set_option maxRecDepth 20000 in
theorem dX11_request_35 : decode cX11_request 35 = .ok (.if_icmp .eq 10, 3) := by decide +kernel
set_option maxRecDepth 20000 in
theorem dX11_request_38 : decode cX11_request 38 = .ok (.aload_n 0, 1) := by decide +kernel
set_option maxRecDepth 20000 in
theorem dX11_request_39 : decode cX11_request 39 = .ok (.getfield 14, 3) := by decide +kernel
set_option maxRecDepth 20000 in
theorem dX11_request_42 : decode cX11_request 42 = .ok (.invokevirtual 150, 3) := by decide +kernel
set_option maxRecDepth 20000 in
theorem dX11_request_45 : decode cX11_request 45 = .ok (.iload_n 2, 1) := by decide +kernel
set_option maxRecDepth 20000 in
theorem dX11_request_46 : decode cX11_request 46 = .ok (.ireturn, 1) := by decide +kernel
set_option maxRecDepth 20000 in
theorem dX11_scan_0 : decode cX11_scan 0 = .ok (.iload_n 1, 1) := by decide +kernel
set_option maxRecDepth 20000 in
theorem dX11_scan_1 : decode cX11_scan 1 = .ok (.bipush 50, 2) := by decide +kernel
set_option maxRecDepth 20000 in
theorem dX11_scan_3 : decode cX11_scan 3 = .ok (.sipush 30000, 3) := by decide +kernel
set_option maxRecDepth 20000 in
theorem dX11_scan_6 : decode cX11_scan 6 = .ok (.invokestatic 71, 3) := by decide +kernel
set_option maxRecDepth 20000 in
theorem dX11_scan_9 : decode cX11_scan 9 = .ok (.ifCond .eq 21, 3) := by decide +kernel
set_option maxRecDepth 20000 in
theorem dX11_scan_12 : decode cX11_scan 12 = .ok (.iload_n 2, 1) := by decide +kernel
set_option maxRecDepth 20000 in
theorem dX11_scan_13 : decode cX11_scan 13 = .ok (.iconst 0, 1) := by decide +kernel
set_option maxRecDepth 20000 in
theorem dX11_scan_14 : decode cX11_scan 14 = .ok (.sipush 247, 3) := by decide +kernel
set_option maxRecDepth 20000 in
theorem dX11_scan_17 : decode cX11_scan 17 = .ok (.invokestatic 71, 3) := by decide +kernel
set_option maxRecDepth 20000 in
theorem dX11_scan_20 : decode cX11_scan 20 = .ok (.ifCond .eq 10, 3) := by decide +kernel
set_option maxRecDepth 20000 in
theorem dX11_scan_23 : decode cX11_scan 23 = .ok (.aload_n 0, 1) := by decide +kernel
set_option maxRecDepth 20000 in
theorem dX11_scan_24 : decode cX11_scan 24 = .ok (.invokevirtual 159, 3) := by decide +kernel
set_option maxRecDepth 20000 in
theorem dX11_scan_27 : decode cX11_scan 27 = .ok (.ifCond .ne 5, 3) := by decide +kernel
set_option maxRecDepth 20000 in
theorem dX11_scan_30 : decode cX11_scan 30 = .ok (.iconst (-1), 1) := by decide +kernel
set_option maxRecDepth 20000 in
theorem dX11_scan_31 : decode cX11_scan 31 = .ok (.ireturn, 1) := by decide +kernel
set_option maxRecDepth 20000 in
theorem dX11_scan_32 : decode cX11_scan 32 = .ok (.aload_n 0, 1) := by decide +kernel
set_option maxRecDepth 20000 in
theorem dX11_scan_33 : decode cX11_scan 33 = .ok (.getfield 47, 3) := by decide +kernel
set_option maxRecDepth 20000 in
theorem dX11_scan_36 : decode cX11_scan 36 = .ok (.iload_n 1, 1) := by decide +kernel
set_option maxRecDepth 20000 in
theorem dX11_scan_37 : decode cX11_scan 37 = .ok (.aload_n 0, 1) := by decide +kernel
set_option maxRecDepth 20000 in
theorem dX11_scan_38 : decode cX11_scan 38 = .ok (.getfield 51, 3) := by decide +kernel
set_option maxRecDepth 20000 in
theorem dX11_scan_41 : decode cX11_scan 41 = .ok (.iload_n 1, 1) := by decide +kernel
set_option maxRecDepth 20000 in
theorem dX11_scan_42 : decode cX11_scan 42 = .ok (.iadd, 1) := by decide +kernel
set_option maxRecDepth 20000 in
theorem dX11_scan_43 : decode cX11_scan 43 = .ok (.iload_n 2, 1) := by decide +kernel
set_option maxRecDepth 20000 in
theorem dX11_scan_44 : decode cX11_scan 44 = .ok (.aload_n 0, 1) := by decide +kernel
set_option maxRecDepth 20000 in
theorem dX11_scan_45 : decode cX11_scan 45 = .ok (.getfield 14, 3) := by decide +kernel
set_option maxRecDepth 20000 in
theorem dX11_scan_48 : decode cX11_scan 48 = .ok (.invokevirtual 185, 3) := by decide +kernel
set_option maxRecDepth 20000 in
theorem dX11_scan_51 : decode cX11_scan 51 = .ok (.istore_n 3, 1) := by decide +kernel
set_option maxRecDepth 20000 in
theorem dX11_scan_52 : decode cX11_scan 52 = .ok (.iload_n 3, 1) := by decide +kernel
set_option maxRecDepth 20000 in
theorem dX11_scan_53 : decode cX11_scan 53 = .ok (.iconst (-1), 1) := by decide +kernel
set_option maxRecDepth 20000 in
theorem dX11_scan_54 : decode cX11_scan 54 = .ok (.if_icmp .eq 10, 3) := by decide +kernel
set_option maxRecDepth 20000 in
theorem dX11_scan_57 : decode cX11_scan 57 = .ok (.aload_n 0, 1) := by decide +kernel
set_option maxRecDepth 20000 in
theorem dX11_scan_58 : decode cX11_scan 58 = .ok (.getfield 14, 3) := by decide +kernel
set_option maxRecDepth 20000 in
theorem dX11_scan_61 : decode cX11_scan 61 = .ok (.invokevirtual 150, 3) := by decide +kernel
set_option maxRecDepth 20000 in
theorem dX11_scan_64 : decode cX11_scan 64 = .ok (.iload_n 3, 1) := by decide +kernel
set_option maxRecDepth 20000 in
theorem dX11_scan_65 : decode cX11_scan 65 = .ok (.ireturn, 1) := by decide +kernel
set_option maxRecDepth 20000 in
theorem dX11_harm_0 : decode cX11_harm 0 = .ok (.iload_n 1, 1) := by decide +kernel
set_option maxRecDepth 20000 in
theorem dX11_harm_1 : decode cX11_harm 1 = .ok (.iconst 0, 1) := by decide +kernel
set_option maxRecDepth 20000 in
theorem dX11_harm_2 : decode cX11_harm 2 = .ok (.sipush 2000, 3) := by decide +kernel
set_option maxRecDepth 20000 in
theorem dX11_harm_5 : decode cX11_harm 5 = .ok (.invokestatic 71, 3) := by decide +kernel
set_option maxRecDepth 20000 in
theorem dX11_harm_8 : decode cX11_harm 8 = .ok (.ifCond .eq 30, 3) := by decide +kernel
set_option maxRecDepth 20000 in
theorem dX11_harm_11 : decode cX11_harm 11 = .ok (.iload_n 2, 1) := by decide +kernel
set_option maxRecDepth 20000 in
theorem dX11_harm_12 : decode cX11_harm 12 = .ok (.iconst 1, 1) := by decide +kernel
set_option maxRecDepth 20000 in
theorem dX11_harm_13 : decode cX11_harm 13 = .ok (.sipush 340, 3) := by decide +kernel
set_option maxRecDepth 20000 in
theorem dX11_harm_16 : decode cX11_harm 16 = .ok (.invokestatic 71, 3) := by decide +kernel
set_option maxRecDepth 20000 in
theorem dX11_harm_19 : decode cX11_harm 19 = .ok (.ifCond .eq 19, 3) := by decide +kernel
set_option maxRecDepth 20000 in
theorem dX11_harm_22 : decode cX11_harm 22 = .ok (.aload_n 0, 1) := by decide +kernel
set_option maxRecDepth 20000 in
theorem dX11_harm_23 : decode cX11_harm 23 = .ok (.getfield 40, 3) := by decide +kernel
set_option maxRecDepth 20000 in
theorem dX11_harm_26 : decode cX11_harm 26 = .ok (.iload_n 1, 1) := by decide +kernel
set_option maxRecDepth 20000 in
theorem dX11_harm_27 : decode cX11_harm 27 = .ok (.iload_n 2, 1) := by decide +kernel
set_option maxRecDepth 20000 in
theorem dX11_harm_28 : decode cX11_harm 28 = .ok (.invokevirtual 189, 3) := by decide +kernel
set_option maxRecDepth 20000 in
theorem dX11_harm_31 : decode cX11_harm 31 = .ok (.ifCond .eq 7, 3) := by decide +kernel
set_option maxRecDepth 20000 in
theorem dX11_harm_34 : decode cX11_harm 34 = .ok (.iconst 1, 1) := by decide +kernel
set_option maxRecDepth 20000 in
theorem dX11_harm_35 : decode cX11_harm 35 = .ok (.goto 4, 3) := by decide +kernel
set_option maxRecDepth 20000 in
theorem dX11_harm_38 : decode cX11_harm 38 = .ok (.iconst 0, 1) := by decide +kernel
set_option maxRecDepth 20000 in
theorem dX11_harm_39 : decode cX11_harm 39 = .ok (.ireturn, 1) := by decide +kernel
set_option maxRecDepth 20000 in
theorem dX11_tick_0 : decode cX11_tick 0 = .ok (.iload_n 1, 1) := by decide +kernel
set_option maxRecDepth 20000 in
theorem dX11_tick_1 : decode cX11_tick 1 = .ok (.iconst 1, 1) := by decide +kernel
set_option maxRecDepth 20000 in
theorem dX11_tick_2 : decode cX11_tick 2 = .ok (.sipush 1000, 3) := by decide +kernel
set_option maxRecDepth 20000 in
theorem dX11_tick_5 : decode cX11_tick 5 = .ok (.invokestatic 71, 3) := by decide +kernel
set_option maxRecDepth 20000 in
theorem dX11_tick_8 : decode cX11_tick 8 = .ok (.ifCond .ne 13, 3) := by decide +kernel
set_option maxRecDepth 20000 in
theorem dX11_tick_11 : decode cX11_tick 11 = .ok (.new 192, 3) := by decide +kernel
set_option maxRecDepth 20000 in
theorem dX11_tick_14 : decode cX11_tick 14 = .ok (.dup, 1) := by decide +kernel
set_option maxRecDepth 20000 in
theorem dX11_tick_15 : decode cX11_tick 15 = .ok (.ldc 194, 2) := by decide +kernel
set_option maxRecDepth 20000 in
theorem dX11_tick_17 : decode cX11_tick 17 = .ok (.invokespecial 196, 3) := by decide +kernel
set_option maxRecDepth 20000 in
theorem dX11_tick_20 : decode cX11_tick 20 = .ok (.athrow, 1) := by decide +kernel
set_option maxRecDepth 20000 in
theorem dX11_tick_21 : decode cX11_tick 21 = .ok (.aload_n 0, 1) := by decide +kernel
set_option maxRecDepth 20000 in
theorem dX11_tick_22 : decode cX11_tick 22 = .ok (.getfield 40, 3) := by decide +kernel
set_option maxRecDepth 20000 in
theorem dX11_tick_25 : decode cX11_tick 25 = .ok (.getfield 199, 3) := by decide +kernel
set_option maxRecDepth 20000 in
theorem dX11_tick_28 : decode cX11_tick 28 = .ok (.istore_n 2, 1) := by decide +kernel
set_option maxRecDepth 20000 in
theorem dX11_tick_29 : decode cX11_tick 29 = .ok (.iconst 0, 1) := by decide +kernel
set_option maxRecDepth 20000 in
theorem dX11_tick_30 : decode cX11_tick 30 = .ok (.istore_n 3, 1) := by decide +kernel
set_option maxRecDepth 20000 in
theorem dX11_tick_31 : decode cX11_tick 31 = .ok (.iload_n 3, 1) := by decide +kernel
set_option maxRecDepth 20000 in
theorem dX11_tick_32 : decode cX11_tick 32 = .ok (.iload_n 1, 1) := by decide +kernel
set_option maxRecDepth 20000 in
theorem dX11_tick_33 : decode cX11_tick 33 = .ok (.if_icmp .ge 13, 3) := by decide +kernel
set_option maxRecDepth 20000 in
theorem dX11_tick_36 : decode cX11_tick 36 = .ok (.aload_n 0, 1) := by decide +kernel
set_option maxRecDepth 20000 in
theorem dX11_tick_37 : decode cX11_tick 37 = .ok (.invokevirtual 202, 3) := by decide +kernel
set_option maxRecDepth 20000 in
theorem dX11_tick_40 : decode cX11_tick 40 = .ok (.iinc 3 1, 3) := by decide +kernel
set_option maxRecDepth 20000 in
theorem dX11_tick_43 : decode cX11_tick 43 = .ok (.goto (-12), 3) := by decide +kernel
set_option maxRecDepth 20000 in
theorem dX11_tick_46 : decode cX11_tick 46 = .ok (.aload_n 0, 1) := by decide +kernel
set_option maxRecDepth 20000 in
theorem dX11_tick_47 : decode cX11_tick 47 = .ok (.getfield 40, 3) := by decide +kernel
set_option maxRecDepth 20000 in
theorem dX11_tick_50 : decode cX11_tick 50 = .ok (.getfield 199, 3) := by decide +kernel
set_option maxRecDepth 20000 in
theorem dX11_tick_53 : decode cX11_tick 53 = .ok (.iload_n 2, 1) := by decide +kernel
set_option maxRecDepth 20000 in
theorem dX11_tick_54 : decode cX11_tick 54 = .ok (.isub, 1) := by decide +kernel
set_option maxRecDepth 20000 in
theorem dX11_tick_55 : decode cX11_tick 55 = .ok (.ireturn, 1) := by decide +kernel
set_option maxRecDepth 20000 in
theorem dX11_step_0 : decode cX11_step 0 = .ok (.aload_n 0, 1) := by decide +kernel
set_option maxRecDepth 20000 in
theorem dX11_step_1 : decode cX11_step 1 = .ok (.getfield 51, 3) := by decide +kernel
set_option maxRecDepth 20000 in
theorem dX11_step_4 : decode cX11_step 4 = .ok (.bipush 20, 2) := by decide +kernel
set_option maxRecDepth 20000 in
theorem dX11_step_6 : decode cX11_step 6 = .ok (.irem, 1) := by decide +kernel
set_option maxRecDepth 20000 in
theorem dX11_step_7 : decode cX11_step 7 = .ok (.ifCond .ne 7, 3) := by decide +kernel
set_option maxRecDepth 20000 in
theorem dX11_step_10 : decode cX11_step 10 = .ok (.aload_n 0, 1) := by decide +kernel
set_option maxRecDepth 20000 in
theorem dX11_step_11 : decode cX11_step 11 = .ok (.invokevirtual 205, 3) := by decide +kernel
set_option maxRecDepth 20000 in
theorem dX11_step_14 : decode cX11_step 14 = .ok (.aload_n 0, 1) := by decide +kernel
set_option maxRecDepth 20000 in
theorem dX11_step_15 : decode cX11_step 15 = .ok (.getfield 47, 3) := by decide +kernel
set_option maxRecDepth 20000 in
theorem dX11_step_18 : decode cX11_step 18 = .ok (.aload_n 0, 1) := by decide +kernel
set_option maxRecDepth 20000 in
theorem dX11_step_19 : decode cX11_step 19 = .ok (.getfield 51, 3) := by decide +kernel
set_option maxRecDepth 20000 in
theorem dX11_step_22 : decode cX11_step 22 = .ok (.invokevirtual 208, 3) := by decide +kernel
set_option maxRecDepth 20000 in
theorem dX11_step_25 : decode cX11_step 25 = .ok (.aload_n 0, 1) := by decide +kernel
set_option maxRecDepth 20000 in
theorem dX11_step_26 : decode cX11_step 26 = .ok (.getfield 40, 3) := by decide +kernel
set_option maxRecDepth 20000 in
theorem dX11_step_29 : decode cX11_step 29 = .ok (.getfield 211, 3) := by decide +kernel
set_option maxRecDepth 20000 in
theorem dX11_step_32 : decode cX11_step 32 = .ok (.ifCond .ne 19, 3) := by decide +kernel
set_option maxRecDepth 20000 in
theorem dX11_step_35 : decode cX11_step 35 = .ok (.aload_n 0, 1) := by decide +kernel
set_option maxRecDepth 20000 in
theorem dX11_step_36 : decode cX11_step 36 = .ok (.getfield 40, 3) := by decide +kernel
set_option maxRecDepth 20000 in
theorem dX11_step_39 : decode cX11_step 39 = .ok (.getfield 214, 3) := by decide +kernel
set_option maxRecDepth 20000 in
theorem dX11_step_42 : decode cX11_step 42 = .ok (.bipush 14, 2) := by decide +kernel
set_option maxRecDepth 20000 in
theorem dX11_step_44 : decode cX11_step 44 = .ok (.if_icmp .lt 7, 3) := by decide +kernel
set_option maxRecDepth 20000 in
theorem dX11_step_47 : decode cX11_step 47 = .ok (.aload_n 0, 1) := by decide +kernel
set_option maxRecDepth 20000 in
theorem dX11_step_48 : decode cX11_step 48 = .ok (.invokevirtual 217, 3) := by decide +kernel
set_option maxRecDepth 20000 in
theorem dX11_step_51 : decode cX11_step 51 = .ok (.aload_n 0, 1) := by decide +kernel
set_option maxRecDepth 20000 in
theorem dX11_step_52 : decode cX11_step 52 = .ok (.getfield 47, 3) := by decide +kernel
set_option maxRecDepth 20000 in
theorem dX11_step_55 : decode cX11_step 55 = .ok (.aload_n 0, 1) := by decide +kernel
set_option maxRecDepth 20000 in
theorem dX11_step_56 : decode cX11_step 56 = .ok (.getfield 40, 3) := by decide +kernel
set_option maxRecDepth 20000 in
theorem dX11_step_59 : decode cX11_step 59 = .ok (.getfield 211, 3) := by decide +kernel
set_option maxRecDepth 20000 in
theorem dX11_step_62 : decode cX11_step 62 = .ok (.ifCond .eq 7, 3) := by decide +kernel
set_option maxRecDepth 20000 in
theorem dX11_step_65 : decode cX11_step 65 = .ok (.iconst 1, 1) := by decide +kernel
set_option maxRecDepth 20000 in
theorem dX11_step_66 : decode cX11_step 66 = .ok (.goto 4, 3) := by decide +kernel
set_option maxRecDepth 20000 in
theorem dX11_step_69 : decode cX11_step 69 = .ok (.iconst 0, 1) := by decide +kernel
set_option maxRecDepth 20000 in
theorem dX11_step_70 : decode cX11_step 70 = .ok (.invokevirtual 220, 3) := by decide +kernel
set_option maxRecDepth 20000 in
theorem dX11_step_73 : decode cX11_step 73 = .ok (.aload_n 0, 1) := by decide +kernel
set_option maxRecDepth 20000 in
theorem dX11_step_74 : decode cX11_step 74 = .ok (.invokevirtual 224, 3) := by decide +kernel
set_option maxRecDepth 20000 in
theorem dX11_step_77 : decode cX11_step 77 = .ok (.aload_n 0, 1) := by decide +kernel
set_option maxRecDepth 20000 in
theorem dX11_step_78 : decode cX11_step 78 = .ok (.getfield 40, 3) := by decide +kernel
set_option maxRecDepth 20000 in
theorem dX11_step_81 : decode cX11_step 81 = .ok (.getfield 211, 3) := by decide +kernel
set_option maxRecDepth 20000 in
theorem dX11_step_84 : decode cX11_step 84 = .ok (.istore_n 1, 1) := by decide +kernel
set_option maxRecDepth 20000 in
theorem dX11_step_85 : decode cX11_step 85 = .ok (.aload_n 0, 1) := by decide +kernel
set_option maxRecDepth 20000 in
theorem dX11_step_86 : decode cX11_step 86 = .ok (.getfield 40, 3) := by decide +kernel
set_option maxRecDepth 20000 in
theorem dX11_step_89 : decode cX11_step 89 = .ok (.invokevirtual 227, 3) := by decide +kernel
set_option maxRecDepth 20000 in
theorem dX11_step_92 : decode cX11_step 92 = .ok (.istore_n 2, 1) := by decide +kernel
set_option maxRecDepth 20000 in
theorem dX11_step_93 : decode cX11_step 93 = .ok (.iload_n 2, 1) := by decide +kernel
set_option maxRecDepth 20000 in
theorem dX11_step_94 : decode cX11_step 94 = .ok (.iconst 2, 1) := by decide +kernel
set_option maxRecDepth 20000 in
theorem dX11_step_95 : decode cX11_step 95 = .ok (.if_icmp .ne 15, 3) := by decide +kernel
set_option maxRecDepth 20000 in
theorem dX11_step_98 : decode cX11_step 98 = .ok (.aload_n 0, 1) := by decide +kernel
set_option maxRecDepth 20000 in
theorem dX11_step_99 : decode cX11_step 99 = .ok (.iload_n 1, 1) := by decide +kernel
set_option maxRecDepth 20000 in
theorem dX11_step_100 : decode cX11_step 100 = .ok (.aload_n 0, 1) := by decide +kernel
set_option maxRecDepth 20000 in
theorem dX11_step_101 : decode cX11_step 101 = .ok (.getfield 40, 3) := by decide +kernel
set_option maxRecDepth 20000 in
theorem dX11_step_104 : decode cX11_step 104 = .ok (.getfield 231, 3) := by decide +kernel
set_option maxRecDepth 20000 in
theorem dX11_step_107 : decode cX11_step 107 = .ok (.invokevirtual 233, 3) := by decide +kernel
set_option maxRecDepth 20000 in
theorem dX11_step_110 : decode cX11_step 110 = .ok (.iload_n 1, 1) := by decide +kernel
set_option maxRecDepth 20000 in
theorem dX11_step_111 : decode cX11_step 111 = .ok (.iconst 1, 1) := by decide +kernel
set_option maxRecDepth 20000 in
theorem dX11_step_112 : decode cX11_step 112 = .ok (.if_icmp .ne 20, 3) := by decide +kernel
set_option maxRecDepth 20000 in
theorem dX11_step_115 : decode cX11_step 115 = .ok (.aload_n 0, 1) := by decide +kernel
set_option maxRecDepth 20000 in
theorem dX11_step_116 : decode cX11_step 116 = .ok (.getfield 40, 3) := by decide +kernel
set_option maxRecDepth 20000 in
theorem dX11_step_119 : decode cX11_step 119 = .ok (.getfield 211, 3) := by decide +kernel
set_option maxRecDepth 20000 in
theorem dX11_step_122 : decode cX11_step 122 = .ok (.ifCond .ne 10, 3) := by decide +kernel
set_option maxRecDepth 20000 in
theorem dX11_step_125 : decode cX11_step 125 = .ok (.aload_n 0, 1) := by decide +kernel
set_option maxRecDepth 20000 in
theorem dX11_step_126 : decode cX11_step 126 = .ok (.getfield 47, 3) := by decide +kernel
set_option maxRecDepth 20000 in
theorem dX11_step_129 : decode cX11_step 129 = .ok (.invokevirtual 236, 3) := by decide +kernel
set_option maxRecDepth 20000 in
theorem dX11_step_132 : decode cX11_step 132 = .ok (.iload_n 2, 1) := by decide +kernel
set_option maxRecDepth 20000 in
theorem dX11_step_133 : decode cX11_step 133 = .ok (.ifCond .ne 8, 3) := by decide +kernel
set_option maxRecDepth 20000 in
theorem dX11_step_136 : decode cX11_step 136 = .ok (.aload_n 0, 1) := by decide +kernel
set_option maxRecDepth 20000 in
theorem dX11_step_137 : decode cX11_step 137 = .ok (.iload_n 1, 1) := by decide +kernel
set_option maxRecDepth 20000 in
theorem dX11_step_138 : decode cX11_step 138 = .ok (.invokevirtual 239, 3) := by decide +kernel
set_option maxRecDepth 20000 in
theorem dX11_step_141 : decode cX11_step 141 = .ok (.aload_n 0, 1) := by decide +kernel
set_option maxRecDepth 20000 in
theorem dX11_step_142 : decode cX11_step 142 = .ok (.dup, 1) := by decide +kernel
set_option maxRecDepth 20000 in
theorem dX11_step_143 : decode cX11_step 143 = .ok (.getfield 51, 3) := by decide +kernel
set_option maxRecDepth 20000 in
theorem dX11_step_146 : decode cX11_step 146 = .ok (.iconst 1, 1) := by decide +kernel
set_option maxRecDepth 20000 in
theorem dX11_step_147 : decode cX11_step 147 = .ok (.iadd, 1) := by decide +kernel
set_option maxRecDepth 20000 in
theorem dX11_step_148 : decode cX11_step 148 = .ok (.putfield 51, 3) := by decide +kernel
set_option maxRecDepth 20000 in
theorem dX11_step_151 : decode cX11_step 151 = .ok (.return_, 1) := by decide +kernel
set_option maxRecDepth 20000 in
theorem dX11_applyRules_0 : decode cX11_applyRules 0 = .ok (.iconst 0, 1) := by decide +kernel
set_option maxRecDepth 20000 in
theorem dX11_applyRules_1 : decode cX11_applyRules 1 = .ok (.istore_n 1, 1) := by decide +kernel
set_option maxRecDepth 20000 in
theorem dX11_applyRules_2 : decode cX11_applyRules 2 = .ok (.iload_n 1, 1) := by decide +kernel
set_option maxRecDepth 20000 in
theorem dX11_applyRules_3 : decode cX11_applyRules 3 = .ok (.aload_n 0, 1) := by decide +kernel
set_option maxRecDepth 20000 in
theorem dX11_applyRules_4 : decode cX11_applyRules 4 = .ok (.getfield 33, 3) := by decide +kernel
set_option maxRecDepth 20000 in
theorem dX11_applyRules_7 : decode cX11_applyRules 7 = .ok (.if_icmp .ge 23, 3) := by decide +kernel
set_option maxRecDepth 20000 in
theorem dX11_applyRules_10 : decode cX11_applyRules 10 = .ok (.aload_n 0, 1) := by decide +kernel
set_option maxRecDepth 20000 in
theorem dX11_applyRules_11 : decode cX11_applyRules 11 = .ok (.iload_n 1, 1) := by decide +kernel
set_option maxRecDepth 20000 in
theorem dX11_applyRules_12 : decode cX11_applyRules 12 = .ok (.invokevirtual 82, 3) := by decide +kernel
set_option maxRecDepth 20000 in
theorem dX11_applyRules_15 : decode cX11_applyRules 15 = .ok (.astore_n 2, 1) := by decide +kernel
set_option maxRecDepth 20000 in
theorem dX11_applyRules_16 : decode cX11_applyRules 16 = .ok (.aload_n 2, 1) := by decide +kernel
set_option maxRecDepth 20000 in
theorem dX11_applyRules_17 : decode cX11_applyRules 17 = .ok (.ifnull 7, 3) := by decide +kernel
set_option maxRecDepth 20000 in
theorem dX11_applyRules_20 : decode cX11_applyRules 20 = .ok (.aload_n 2, 1) := by decide +kernel
set_option maxRecDepth 20000 in
theorem dX11_applyRules_21 : decode cX11_applyRules 21 = .ok (.invokevirtual 242, 3) := by decide +kernel
set_option maxRecDepth 20000 in
theorem dX11_applyRules_24 : decode cX11_applyRules 24 = .ok (.iinc 1 1, 3) := by decide +kernel
set_option maxRecDepth 20000 in
theorem dX11_applyRules_27 : decode cX11_applyRules 27 = .ok (.goto (-25), 3) := by decide +kernel
set_option maxRecDepth 20000 in
theorem dX11_applyRules_30 : decode cX11_applyRules 30 = .ok (.return_, 1) := by decide +kernel
set_option maxRecDepth 20000 in
theorem dX11_beginFrame_0 : decode cX11_beginFrame 0 = .ok (.aload_n 0, 1) := by decide +kernel
set_option maxRecDepth 20000 in
theorem dX11_beginFrame_1 : decode cX11_beginFrame 1 = .ok (.getfield 47, 3) := by decide +kernel
set_option maxRecDepth 20000 in
theorem dX11_beginFrame_4 : decode cX11_beginFrame 4 = .ok (.invokevirtual 243, 3) := by decide +kernel
set_option maxRecDepth 20000 in
theorem dX11_beginFrame_7 : decode cX11_beginFrame 7 = .ok (.astore_n 1, 1) := by decide +kernel
set_option maxRecDepth 20000 in
theorem dX11_beginFrame_8 : decode cX11_beginFrame 8 = .ok (.aload_n 0, 1) := by decide +kernel
set_option maxRecDepth 20000 in
theorem dX11_beginFrame_9 : decode cX11_beginFrame 9 = .ok (.getfield 47, 3) := by decide +kernel
set_option maxRecDepth 20000 in
theorem dX11_beginFrame_12 : decode cX11_beginFrame 12 = .ok (.getfield 247, 3) := by decide +kernel
set_option maxRecDepth 20000 in
theorem dX11_beginFrame_15 : decode cX11_beginFrame 15 = .ok (.ifCond .ne 42, 3) := by decide +kernel
set_option maxRecDepth 20000 in
theorem dX11_beginFrame_18 : decode cX11_beginFrame 18 = .ok (.aload_n 1, 1) := by decide +kernel
set_option maxRecDepth 20000 in
theorem dX11_beginFrame_19 : decode cX11_beginFrame 19 = .ok (.ifnull 38, 3) := by decide +kernel
set_option maxRecDepth 20000 in
theorem dX11_beginFrame_22 : decode cX11_beginFrame 22 = .ok (.aload_n 1, 1) := by decide +kernel
set_option maxRecDepth 20000 in
theorem dX11_beginFrame_23 : decode cX11_beginFrame 23 = .ok (.dup, 1) := by decide +kernel
set_option maxRecDepth 20000 in
theorem dX11_beginFrame_24 : decode cX11_beginFrame 24 = .ok (.getfield 250, 3) := by decide +kernel
set_option maxRecDepth 20000 in
theorem dX11_beginFrame_27 : decode cX11_beginFrame 27 = .ok (.iconst 1, 1) := by decide +kernel
set_option maxRecDepth 20000 in
theorem dX11_beginFrame_28 : decode cX11_beginFrame 28 = .ok (.iadd, 1) := by decide +kernel
set_option maxRecDepth 20000 in
theorem dX11_beginFrame_29 : decode cX11_beginFrame 29 = .ok (.putfield 250, 3) := by decide +kernel
set_option maxRecDepth 20000 in
theorem dX11_beginFrame_32 : decode cX11_beginFrame 32 = .ok (.aload_n 0, 1) := by decide +kernel
set_option maxRecDepth 20000 in
theorem dX11_beginFrame_33 : decode cX11_beginFrame 33 = .ok (.getfield 47, 3) := by decide +kernel
set_option maxRecDepth 20000 in
theorem dX11_beginFrame_36 : decode cX11_beginFrame 36 = .ok (.iconst 1, 1) := by decide +kernel
set_option maxRecDepth 20000 in
theorem dX11_beginFrame_37 : decode cX11_beginFrame 37 = .ok (.putfield 247, 3) := by decide +kernel
set_option maxRecDepth 20000 in
theorem dX11_beginFrame_40 : decode cX11_beginFrame 40 = .ok (.aload_n 0, 1) := by decide +kernel
set_option maxRecDepth 20000 in
theorem dX11_beginFrame_41 : decode cX11_beginFrame 41 = .ok (.getfield 40, 3) := by decide +kernel
set_option maxRecDepth 20000 in
theorem dX11_beginFrame_44 : decode cX11_beginFrame 44 = .ok (.iconst 1, 1) := by decide +kernel
set_option maxRecDepth 20000 in
theorem dX11_beginFrame_45 : decode cX11_beginFrame 45 = .ok (.aload_n 1, 1) := by decide +kernel
set_option maxRecDepth 20000 in
theorem dX11_beginFrame_46 : decode cX11_beginFrame 46 = .ok (.getfield 255, 3) := by decide +kernel
set_option maxRecDepth 20000 in
theorem dX11_beginFrame_49 : decode cX11_beginFrame 49 = .ok (.aload_n 1, 1) := by decide +kernel
set_option maxRecDepth 20000 in
theorem dX11_beginFrame_50 : decode cX11_beginFrame 50 = .ok (.getfield 256, 3) := by decide +kernel
set_option maxRecDepth 20000 in
theorem dX11_beginFrame_53 : decode cX11_beginFrame 53 = .ok (.invokevirtual 259, 3) := by decide +kernel
set_option maxRecDepth 20000 in
theorem dX11_beginFrame_56 : decode cX11_beginFrame 56 = .ok (.return_, 1) := by decide +kernel
set_option maxRecDepth 20000 in
theorem dX11_beginFrame_57 : decode cX11_beginFrame 57 = .ok (.iconst 0, 1) := by decide +kernel
set_option maxRecDepth 20000 in
theorem dX11_beginFrame_58 : decode cX11_beginFrame 58 = .ok (.istore_n 2, 1) := by decide +kernel
set_option maxRecDepth 20000 in
theorem dX11_beginFrame_59 : decode cX11_beginFrame 59 = .ok (.iload_n 2, 1) := by decide +kernel
set_option maxRecDepth 20000 in
theorem dX11_beginFrame_60 : decode cX11_beginFrame 60 = .ok (.aload_n 0, 1) := by decide +kernel
set_option maxRecDepth 20000 in
theorem dX11_beginFrame_61 : decode cX11_beginFrame 61 = .ok (.getfield 33, 3) := by decide +kernel
set_option maxRecDepth 20000 in
theorem dX11_beginFrame_64 : decode cX11_beginFrame 64 = .ok (.if_icmp .ge 62, 3) := by decide +kernel
set_option maxRecDepth 20000 in
theorem dX11_beginFrame_67 : decode cX11_beginFrame 67 = .ok (.aload_n 0, 1) := by decide +kernel
set_option maxRecDepth 20000 in
theorem dX11_beginFrame_68 : decode cX11_beginFrame 68 = .ok (.iload_n 2, 1) := by decide +kernel
set_option maxRecDepth 20000 in
theorem dX11_beginFrame_69 : decode cX11_beginFrame 69 = .ok (.invokevirtual 82, 3) := by decide +kernel
set_option maxRecDepth 20000 in
theorem dX11_beginFrame_72 : decode cX11_beginFrame 72 = .ok (.astore_n 3, 1) := by decide +kernel
set_option maxRecDepth 20000 in
theorem dX11_beginFrame_73 : decode cX11_beginFrame 73 = .ok (.aload_n 3, 1) := by decide +kernel
set_option maxRecDepth 20000 in
theorem dX11_beginFrame_74 : decode cX11_beginFrame 74 = .ok (.ifnull 46, 3) := by decide +kernel
set_option maxRecDepth 20000 in
theorem dX11_beginFrame_77 : decode cX11_beginFrame 77 = .ok (.aload_n 3, 1) := by decide +kernel
set_option maxRecDepth 20000 in
theorem dX11_beginFrame_78 : decode cX11_beginFrame 78 = .ok (.getfield 263, 3) := by decide +kernel
set_option maxRecDepth 20000 in
theorem dX11_beginFrame_81 : decode cX11_beginFrame 81 = .ok (.getfield 54, 3) := by decide +kernel
set_option maxRecDepth 20000 in
theorem dX11_beginFrame_84 : decode cX11_beginFrame 84 = .ok (.ifCond .le 36, 3) := by decide +kernel
set_option maxRecDepth 20000 in
theorem dX11_beginFrame_87 : decode cX11_beginFrame 87 = .ok (.aload_n 3, 1) := by decide +kernel
set_option maxRecDepth 20000 in
theorem dX11_beginFrame_88 : decode cX11_beginFrame 88 = .ok (.getfield 266, 3) := by decide +kernel
set_option maxRecDepth 20000 in
theorem dX11_beginFrame_91 : decode cX11_beginFrame 91 = .ok (.ifCond .ne 29, 3) := by decide +kernel
set_option maxRecDepth 20000 in
theorem dX11_beginFrame_94 : decode cX11_beginFrame 94 = .ok (.aload_n 0, 1) := by decide +kernel
set_option maxRecDepth 20000 in
theorem dX11_beginFrame_95 : decode cX11_beginFrame 95 = .ok (.getfield 40, 3) := by decide +kernel
set_option maxRecDepth 20000 in
theorem dX11_beginFrame_98 : decode cX11_beginFrame 98 = .ok (.iconst 2, 1) := by decide +kernel
set_option maxRecDepth 20000 in
theorem dX11_beginFrame_99 : decode cX11_beginFrame 99 = .ok (.iload_n 2, 1) := by decide +kernel
set_option maxRecDepth 20000 in
theorem dX11_beginFrame_100 : decode cX11_beginFrame 100 = .ok (.iadd, 1) := by decide +kernel
set_option maxRecDepth 20000 in
theorem dX11_beginFrame_101 : decode cX11_beginFrame 101 = .ok (.aload_n 3, 1) := by decide +kernel
set_option maxRecDepth 20000 in
theorem dX11_beginFrame_102 : decode cX11_beginFrame 102 = .ok (.getfield 86, 3) := by decide +kernel
set_option maxRecDepth 20000 in
theorem dX11_beginFrame_105 : decode cX11_beginFrame 105 = .ok (.aload_n 3, 1) := by decide +kernel
set_option maxRecDepth 20000 in
theorem dX11_beginFrame_106 : decode cX11_beginFrame 106 = .ok (.getfield 263, 3) := by decide +kernel
set_option maxRecDepth 20000 in
theorem dX11_beginFrame_109 : decode cX11_beginFrame 109 = .ok (.invokevirtual 259, 3) := by decide +kernel
set_option maxRecDepth 20000 in
theorem dX11_beginFrame_112 : decode cX11_beginFrame 112 = .ok (.aload_n 3, 1) := by decide +kernel
set_option maxRecDepth 20000 in
theorem dX11_beginFrame_113 : decode cX11_beginFrame 113 = .ok (.getfield 263, 3) := by decide +kernel
set_option maxRecDepth 20000 in
theorem dX11_beginFrame_116 : decode cX11_beginFrame 116 = .ok (.invokevirtual 150, 3) := by decide +kernel
set_option maxRecDepth 20000 in
theorem dX11_beginFrame_119 : decode cX11_beginFrame 119 = .ok (.return_, 1) := by decide +kernel
set_option maxRecDepth 20000 in
theorem dX11_beginFrame_120 : decode cX11_beginFrame 120 = .ok (.iinc 2 1, 3) := by decide +kernel
set_option maxRecDepth 20000 in
theorem dX11_beginFrame_123 : decode cX11_beginFrame 123 = .ok (.goto (-64), 3) := by decide +kernel
set_option maxRecDepth 20000 in
theorem dX11_beginFrame_126 : decode cX11_beginFrame 126 = .ok (.return_, 1) := by decide +kernel
set_option maxRecDepth 20000 in
theorem dX11_shortenLags_0 : decode cX11_shortenLags 0 = .ok (.iconst 0, 1) := by decide +kernel
set_option maxRecDepth 20000 in
theorem dX11_shortenLags_1 : decode cX11_shortenLags 1 = .ok (.istore_n 1, 1) := by decide +kernel
set_option maxRecDepth 20000 in
theorem dX11_shortenLags_2 : decode cX11_shortenLags 2 = .ok (.iload_n 1, 1) := by decide +kernel
set_option maxRecDepth 20000 in
theorem dX11_shortenLags_3 : decode cX11_shortenLags 3 = .ok (.aload_n 0, 1) := by decide +kernel
set_option maxRecDepth 20000 in
theorem dX11_shortenLags_4 : decode cX11_shortenLags 4 = .ok (.getfield 33, 3) := by decide +kernel
set_option maxRecDepth 20000 in
theorem dX11_shortenLags_7 : decode cX11_shortenLags 7 = .ok (.if_icmp .ge 36, 3) := by decide +kernel
set_option maxRecDepth 20000 in
theorem dX11_shortenLags_10 : decode cX11_shortenLags 10 = .ok (.aload_n 0, 1) := by decide +kernel
set_option maxRecDepth 20000 in
theorem dX11_shortenLags_11 : decode cX11_shortenLags 11 = .ok (.iload_n 1, 1) := by decide +kernel
set_option maxRecDepth 20000 in
theorem dX11_shortenLags_12 : decode cX11_shortenLags 12 = .ok (.invokevirtual 82, 3) := by decide +kernel
set_option maxRecDepth 20000 in
theorem dX11_shortenLags_15 : decode cX11_shortenLags 15 = .ok (.astore_n 2, 1) := by decide +kernel
set_option maxRecDepth 20000 in
theorem dX11_shortenLags_16 : decode cX11_shortenLags 16 = .ok (.aload_n 2, 1) := by decide +kernel
set_option maxRecDepth 20000 in
theorem dX11_shortenLags_17 : decode cX11_shortenLags 17 = .ok (.ifnull 20, 3) := by decide +kernel
set_option maxRecDepth 20000 in
theorem dX11_shortenLags_20 : decode cX11_shortenLags 20 = .ok (.aload_n 2, 1) := by decide +kernel
set_option maxRecDepth 20000 in
theorem dX11_shortenLags_21 : decode cX11_shortenLags 21 = .ok (.getfield 266, 3) := by decide +kernel
set_option maxRecDepth 20000 in
theorem dX11_shortenLags_24 : decode cX11_shortenLags 24 = .ok (.ifCond .le 13, 3) := by decide +kernel
set_option maxRecDepth 20000 in
theorem dX11_shortenLags_27 : decode cX11_shortenLags 27 = .ok (.aload_n 2, 1) := by decide +kernel
set_option maxRecDepth 20000 in
theorem dX11_shortenLags_28 : decode cX11_shortenLags 28 = .ok (.dup, 1) := by decide +kernel
set_option maxRecDepth 20000 in
theorem dX11_shortenLags_29 : decode cX11_shortenLags 29 = .ok (.getfield 266, 3) := by decide +kernel
set_option maxRecDepth 20000 in
theorem dX11_shortenLags_32 : decode cX11_shortenLags 32 = .ok (.iconst 1, 1) := by decide +kernel
set_option maxRecDepth 20000 in
theorem dX11_shortenLags_33 : decode cX11_shortenLags 33 = .ok (.isub, 1) := by decide +kernel
set_option maxRecDepth 20000 in
theorem dX11_shortenLags_34 : decode cX11_shortenLags 34 = .ok (.putfield 266, 3) := by decide +kernel
set_option maxRecDepth 20000 in
theorem dX11_shortenLags_37 : decode cX11_shortenLags 37 = .ok (.iinc 1 1, 3) := by decide +kernel
set_option maxRecDepth 20000 in
theorem dX11_shortenLags_40 : decode cX11_shortenLags 40 = .ok (.goto (-38), 3) := by decide +kernel
set_option maxRecDepth 20000 in
theorem dX11_shortenLags_43 : decode cX11_shortenLags 43 = .ok (.return_, 1) := by decide +kernel
set_option maxRecDepth 20000 in
theorem dX11_spread_0 : decode cX11_spread 0 = .ok (.iload_n 1, 1) := by decide +kernel
set_option maxRecDepth 20000 in
theorem dX11_spread_1 : decode cX11_spread 1 = .ok (.iconst 1, 1) := by decide +kernel
set_option maxRecDepth 20000 in
theorem dX11_spread_2 : decode cX11_spread 2 = .ok (.if_icmp .eq 14, 3) := by decide +kernel
set_option maxRecDepth 20000 in
theorem dX11_spread_5 : decode cX11_spread 5 = .ok (.aload_n 0, 1) := by decide +kernel
set_option maxRecDepth 20000 in
theorem dX11_spread_6 : decode cX11_spread 6 = .ok (.getfield 47, 3) := by decide +kernel
set_option maxRecDepth 20000 in
theorem dX11_spread_9 : decode cX11_spread 9 = .ok (.getfield 269, 3) := by decide +kernel
set_option maxRecDepth 20000 in
theorem dX11_spread_12 : decode cX11_spread 12 = .ok (.iload_n 2, 1) := by decide +kernel
set_option maxRecDepth 20000 in
theorem dX11_spread_13 : decode cX11_spread 13 = .ok (.invokevirtual 273, 3) := by decide +kernel
set_option maxRecDepth 20000 in
theorem dX11_spread_16 : decode cX11_spread 16 = .ok (.iconst 0, 1) := by decide +kernel
set_option maxRecDepth 20000 in
theorem dX11_spread_17 : decode cX11_spread 17 = .ok (.istore_n 3, 1) := by decide +kernel
set_option maxRecDepth 20000 in
theorem dX11_spread_18 : decode cX11_spread 18 = .ok (.iload_n 3, 1) := by decide +kernel
set_option maxRecDepth 20000 in
theorem dX11_spread_19 : decode cX11_spread 19 = .ok (.aload_n 0, 1) := by decide +kernel
set_option maxRecDepth 20000 in
theorem dX11_spread_20 : decode cX11_spread 20 = .ok (.getfield 33, 3) := by decide +kernel
set_option maxRecDepth 20000 in
theorem dX11_spread_23 : decode cX11_spread 23 = .ok (.if_icmp .ge 37, 3) := by decide +kernel
set_option maxRecDepth 20000 in
theorem dX11_spread_26 : decode cX11_spread 26 = .ok (.aload_n 0, 1) := by decide +kernel
set_option maxRecDepth 20000 in
theorem dX11_spread_27 : decode cX11_spread 27 = .ok (.iload_n 3, 1) := by decide +kernel
set_option maxRecDepth 20000 in
theorem dX11_spread_28 : decode cX11_spread 28 = .ok (.invokevirtual 82, 3) := by decide +kernel
set_option maxRecDepth 20000 in
theorem dX11_spread_31 : decode cX11_spread 31 = .ok (.astore 4, 2) := by decide +kernel
set_option maxRecDepth 20000 in
theorem dX11_spread_33 : decode cX11_spread 33 = .ok (.aload 4, 2) := by decide +kernel
set_option maxRecDepth 20000 in
theorem dX11_spread_35 : decode cX11_spread 35 = .ok (.ifnull 19, 3) := by decide +kernel
set_option maxRecDepth 20000 in
theorem dX11_spread_38 : decode cX11_spread 38 = .ok (.iload_n 1, 1) := by decide +kernel
set_option maxRecDepth 20000 in
theorem dX11_spread_39 : decode cX11_spread 39 = .ok (.iconst 2, 1) := by decide +kernel
set_option maxRecDepth 20000 in
theorem dX11_spread_40 : decode cX11_spread 40 = .ok (.iload_n 3, 1) := by decide +kernel
set_option maxRecDepth 20000 in
theorem dX11_spread_41 : decode cX11_spread 41 = .ok (.iadd, 1) := by decide +kernel
set_option maxRecDepth 20000 in
theorem dX11_spread_42 : decode cX11_spread 42 = .ok (.if_icmp .eq 12, 3) := by decide +kernel
set_option maxRecDepth 20000 in
theorem dX11_spread_45 : decode cX11_spread 45 = .ok (.aload 4, 2) := by decide +kernel
set_option maxRecDepth 20000 in
theorem dX11_spread_47 : decode cX11_spread 47 = .ok (.getfield 278, 3) := by decide +kernel
set_option maxRecDepth 20000 in
theorem dX11_spread_50 : decode cX11_spread 50 = .ok (.iload_n 2, 1) := by decide +kernel
set_option maxRecDepth 20000 in
theorem dX11_spread_51 : decode cX11_spread 51 = .ok (.invokevirtual 273, 3) := by decide +kernel
set_option maxRecDepth 20000 in
theorem dX11_spread_54 : decode cX11_spread 54 = .ok (.iinc 3 1, 3) := by decide +kernel
set_option maxRecDepth 20000 in
theorem dX11_spread_57 : decode cX11_spread 57 = .ok (.goto (-39), 3) := by decide +kernel
set_option maxRecDepth 20000 in
theorem dX11_spread_60 : decode cX11_spread 60 = .ok (.return_, 1) := by decide +kernel
set_option maxRecDepth 20000 in
theorem dX11_silence_0 : decode cX11_silence 0 = .ok (.iload_n 1, 1) := by decide +kernel
set_option maxRecDepth 20000 in
theorem dX11_silence_1 : decode cX11_silence 1 = .ok (.iconst 1, 1) := by decide +kernel
set_option maxRecDepth 20000 in
theorem dX11_silence_2 : decode cX11_silence 2 = .ok (.if_icmp .eq 37, 3) := by decide +kernel
set_option maxRecDepth 20000 in
theorem dX11_silence_5 : decode cX11_silence 5 = .ok (.aload_n 0, 1) := by decide +kernel
set_option maxRecDepth 20000 in
theorem dX11_silence_6 : decode cX11_silence 6 = .ok (.getfield 47, 3) := by decide +kernel
set_option maxRecDepth 20000 in
theorem dX11_silence_9 : decode cX11_silence 9 = .ok (.getfield 269, 3) := by decide +kernel
set_option maxRecDepth 20000 in
theorem dX11_silence_12 : decode cX11_silence 12 = .ok (.invokevirtual 279, 3) := by decide +kernel
set_option maxRecDepth 20000 in
theorem dX11_silence_15 : decode cX11_silence 15 = .ok (.ifCond .eq 24, 3) := by decide +kernel
set_option maxRecDepth 20000 in
theorem dX11_silence_18 : decode cX11_silence 18 = .ok (.aload_n 0, 1) := by decide +kernel
set_option maxRecDepth 20000 in
theorem dX11_silence_19 : decode cX11_silence 19 = .ok (.getfield 47, 3) := by decide +kernel
set_option maxRecDepth 20000 in
theorem dX11_silence_22 : decode cX11_silence 22 = .ok (.aload_n 0, 1) := by decide +kernel
set_option maxRecDepth 20000 in
theorem dX11_silence_23 : decode cX11_silence 23 = .ok (.getfield 24, 3) := by decide +kernel
set_option maxRecDepth 20000 in
theorem dX11_silence_26 : decode cX11_silence 26 = .ok (.invokevirtual 282, 3) := by decide +kernel
set_option maxRecDepth 20000 in
theorem dX11_silence_29 : decode cX11_silence 29 = .ok (.aload_n 0, 1) := by decide +kernel
set_option maxRecDepth 20000 in
theorem dX11_silence_30 : decode cX11_silence 30 = .ok (.getfield 47, 3) := by decide +kernel
set_option maxRecDepth 20000 in
theorem dX11_silence_33 : decode cX11_silence 33 = .ok (.getfield 269, 3) := by decide +kernel
set_option maxRecDepth 20000 in
theorem dX11_silence_36 : decode cX11_silence 36 = .ok (.invokevirtual 286, 3) := by decide +kernel
set_option maxRecDepth 20000 in
theorem dX11_silence_39 : decode cX11_silence 39 = .ok (.iconst 0, 1) := by decide +kernel
set_option maxRecDepth 20000 in
theorem dX11_silence_40 : decode cX11_silence 40 = .ok (.istore_n 2, 1) := by decide +kernel
set_option maxRecDepth 20000 in
theorem dX11_silence_41 : decode cX11_silence 41 = .ok (.iload_n 2, 1) := by decide +kernel
set_option maxRecDepth 20000 in
theorem dX11_silence_42 : decode cX11_silence 42 = .ok (.aload_n 0, 1) := by decide +kernel
set_option maxRecDepth 20000 in
theorem dX11_silence_43 : decode cX11_silence 43 = .ok (.getfield 33, 3) := by decide +kernel
set_option maxRecDepth 20000 in
theorem dX11_silence_46 : decode cX11_silence 46 = .ok (.if_icmp .ge 55, 3) := by decide +kernel
set_option maxRecDepth 20000 in
theorem dX11_silence_49 : decode cX11_silence 49 = .ok (.aload_n 0, 1) := by decide +kernel
set_option maxRecDepth 20000 in
theorem dX11_silence_50 : decode cX11_silence 50 = .ok (.iload_n 2, 1) := by decide +kernel
set_option maxRecDepth 20000 in
theorem dX11_silence_51 : decode cX11_silence 51 = .ok (.invokevirtual 82, 3) := by decide +kernel
set_option maxRecDepth 20000 in
theorem dX11_silence_54 : decode cX11_silence 54 = .ok (.astore_n 3, 1) := by decide +kernel
set_option maxRecDepth 20000 in
theorem dX11_silence_55 : decode cX11_silence 55 = .ok (.aload_n 3, 1) := by decide +kernel
set_option maxRecDepth 20000 in
theorem dX11_silence_56 : decode cX11_silence 56 = .ok (.ifnull 39, 3) := by decide +kernel
set_option maxRecDepth 20000 in
theorem dX11_silence_59 : decode cX11_silence 59 = .ok (.iload_n 1, 1) := by decide +kernel
set_option maxRecDepth 20000 in
theorem dX11_silence_60 : decode cX11_silence 60 = .ok (.iconst 2, 1) := by decide +kernel
set_option maxRecDepth 20000 in
theorem dX11_silence_61 : decode cX11_silence 61 = .ok (.iload_n 2, 1) := by decide +kernel
set_option maxRecDepth 20000 in
theorem dX11_silence_62 : decode cX11_silence 62 = .ok (.iadd, 1) := by decide +kernel
set_option maxRecDepth 20000 in
theorem dX11_silence_63 : decode cX11_silence 63 = .ok (.if_icmp .eq 32, 3) := by decide +kernel
set_option maxRecDepth 20000 in
theorem dX11_silence_66 : decode cX11_silence 66 = .ok (.aload_n 3, 1) := by decide +kernel
set_option maxRecDepth 20000 in
theorem dX11_silence_67 : decode cX11_silence 67 = .ok (.getfield 278, 3) := by decide +kernel
set_option maxRecDepth 20000 in
theorem dX11_silence_70 : decode cX11_silence 70 = .ok (.invokevirtual 279, 3) := by decide +kernel
set_option maxRecDepth 20000 in
theorem dX11_silence_73 : decode cX11_silence 73 = .ok (.ifCond .eq 22, 3) := by decide +kernel
set_option maxRecDepth 20000 in
theorem dX11_silence_76 : decode cX11_silence 76 = .ok (.aload_n 3, 1) := by decide +kernel
set_option maxRecDepth 20000 in
theorem dX11_silence_77 : decode cX11_silence 77 = .ok (.invokevirtual 289, 3) := by decide +kernel
set_option maxRecDepth 20000 in
theorem dX11_silence_80 : decode cX11_silence 80 = .ok (.ifCond .eq 8, 3) := by decide +kernel
set_option maxRecDepth 20000 in
theorem dX11_silence_83 : decode cX11_silence 83 = .ok (.aload_n 0, 1) := by decide +kernel
set_option maxRecDepth 20000 in
theorem dX11_silence_84 : decode cX11_silence 84 = .ok (.aload_n 3, 1) := by decide +kernel
set_option maxRecDepth 20000 in
theorem dX11_silence_85 : decode cX11_silence 85 = .ok (.invokevirtual 292, 3) := by decide +kernel
set_option maxRecDepth 20000 in
theorem dX11_silence_88 : decode cX11_silence 88 = .ok (.aload_n 3, 1) := by decide +kernel
set_option maxRecDepth 20000 in
theorem dX11_silence_89 : decode cX11_silence 89 = .ok (.getfield 278, 3) := by decide +kernel
set_option maxRecDepth 20000 in
theorem dX11_silence_92 : decode cX11_silence 92 = .ok (.invokevirtual 286, 3) := by decide +kernel
set_option maxRecDepth 20000 in
theorem dX11_silence_95 : decode cX11_silence 95 = .ok (.iinc 2 1, 3) := by decide +kernel
set_option maxRecDepth 20000 in
theorem dX11_silence_98 : decode cX11_silence 98 = .ok (.goto (-57), 3) := by decide +kernel
set_option maxRecDepth 20000 in
theorem dX11_silence_101 : decode cX11_silence 101 = .ok (.return_, 1) := by decide +kernel
set_option maxRecDepth 20000 in
theorem dX11_takeMessage_0 : decode cX11_takeMessage 0 = .ok (.aload_n 1, 1) := by decide +kernel
set_option maxRecDepth 20000 in
theorem dX11_takeMessage_1 : decode cX11_takeMessage 1 = .ok (.getfield 278, 3) := by decide +kernel
set_option maxRecDepth 20000 in
theorem dX11_takeMessage_4 : decode cX11_takeMessage 4 = .ok (.getfield 296, 3) := by decide +kernel
set_option maxRecDepth 20000 in
theorem dX11_takeMessage_7 : decode cX11_takeMessage 7 = .ok (.astore_n 2, 1) := by decide +kernel
set_option maxRecDepth 20000 in
theorem dX11_takeMessage_8 : decode cX11_takeMessage 8 = .ok (.aload_n 2, 1) := by decide +kernel
set_option maxRecDepth 20000 in
theorem dX11_takeMessage_9 : decode cX11_takeMessage 9 = .ok (.iconst 0, 1) := by decide +kernel
set_option maxRecDepth 20000 in
theorem dX11_takeMessage_10 : decode cX11_takeMessage 10 = .ok (.invokevirtual 134, 3) := by decide +kernel
set_option maxRecDepth 20000 in
theorem dX11_takeMessage_13 : decode cX11_takeMessage 13 = .ok (.ifCond .ne 7, 3) := by decide +kernel
set_option maxRecDepth 20000 in
theorem dX11_takeMessage_16 : decode cX11_takeMessage 16 = .ok (.iconst 1, 1) := by decide +kernel
set_option maxRecDepth 20000 in
theorem dX11_takeMessage_17 : decode cX11_takeMessage 17 = .ok (.goto 4, 3) := by decide +kernel
set_option maxRecDepth 20000 in
theorem dX11_takeMessage_20 : decode cX11_takeMessage 20 = .ok (.iconst 0, 1) := by decide +kernel
set_option maxRecDepth 20000 in
theorem dX11_takeMessage_21 : decode cX11_takeMessage 21 = .ok (.istore_n 3, 1) := by decide +kernel
set_option maxRecDepth 20000 in
theorem dX11_takeMessage_22 : decode cX11_takeMessage 22 = .ok (.aload_n 0, 1) := by decide +kernel
set_option maxRecDepth 20000 in
theorem dX11_takeMessage_23 : decode cX11_takeMessage 23 = .ok (.getfield 21, 3) := by decide +kernel
set_option maxRecDepth 20000 in
theorem dX11_takeMessage_26 : decode cX11_takeMessage 26 = .ok (.aload_n 2, 1) := by decide +kernel
set_option maxRecDepth 20000 in
theorem dX11_takeMessage_27 : decode cX11_takeMessage 27 = .ok (.iconst 1, 1) := by decide +kernel
set_option maxRecDepth 20000 in
theorem dX11_takeMessage_28 : decode cX11_takeMessage 28 = .ok (.aload_n 2, 1) := by decide +kernel
set_option maxRecDepth 20000 in
theorem dX11_takeMessage_29 : decode cX11_takeMessage 29 = .ok (.getfield 54, 3) := by decide +kernel
set_option maxRecDepth 20000 in
theorem dX11_takeMessage_32 : decode cX11_takeMessage 32 = .ok (.iconst 3, 1) := by decide +kernel
set_option maxRecDepth 20000 in
theorem dX11_takeMessage_33 : decode cX11_takeMessage 33 = .ok (.isub, 1) := by decide +kernel
set_option maxRecDepth 20000 in
theorem dX11_takeMessage_34 : decode cX11_takeMessage 34 = .ok (.invokevirtual 146, 3) := by decide +kernel
set_option maxRecDepth 20000 in
theorem dX11_takeMessage_37 : decode cX11_takeMessage 37 = .ok (.aload_n 0, 1) := by decide +kernel
set_option maxRecDepth 20000 in
theorem dX11_takeMessage_38 : decode cX11_takeMessage 38 = .ok (.getfield 24, 3) := by decide +kernel
set_option maxRecDepth 20000 in
theorem dX11_takeMessage_41 : decode cX11_takeMessage 41 = .ok (.invokevirtual 150, 3) := by decide +kernel
set_option maxRecDepth 20000 in
theorem dX11_takeMessage_44 : decode cX11_takeMessage 44 = .ok (.iconst 0, 1) := by decide +kernel
set_option maxRecDepth 20000 in
theorem dX11_takeMessage_45 : decode cX11_takeMessage 45 = .ok (.istore 4, 2) := by decide +kernel
set_option maxRecDepth 20000 in
theorem dX11_takeMessage_47 : decode cX11_takeMessage 47 = .ok (.aload_n 1, 1) := by decide +kernel
set_option maxRecDepth 20000 in
theorem dX11_takeMessage_48 : decode cX11_takeMessage 48 = .ok (.getfield 299, 3) := by decide +kernel
set_option maxRecDepth 20000 in
theorem dX11_takeMessage_51 : decode cX11_takeMessage 51 = .ok (.ifCond .eq 47, 3) := by decide +kernel
set_option maxRecDepth 20000 in
theorem dX11_takeMessage_54 : decode cX11_takeMessage 54 = .ok (.iload_n 3, 1) := by decide +kernel
set_option maxRecDepth 20000 in
theorem dX11_takeMessage_55 : decode cX11_takeMessage 55 = .ok (.ifCond .ne 33, 3) := by decide +kernel
set_option maxRecDepth 20000 in
theorem dX11_takeMessage_58 : decode cX11_takeMessage 58 = .ok (.aload_n 1, 1) := by decide +kernel
set_option maxRecDepth 20000 in
theorem dX11_takeMessage_59 : decode cX11_takeMessage 59 = .ok (.getfield 156, 3) := by decide +kernel
set_option maxRecDepth 20000 in
theorem dX11_takeMessage_62 : decode cX11_takeMessage 62 = .ok (.ifCond .ne 26, 3) := by decide +kernel
set_option maxRecDepth 20000 in
theorem dX11_takeMessage_65 : decode cX11_takeMessage 65 = .ok (.aload_n 0, 1) := by decide +kernel
set_option maxRecDepth 20000 in
theorem dX11_takeMessage_66 : decode cX11_takeMessage 66 = .ok (.getfield 21, 3) := by decide +kernel
set_option maxRecDepth 20000 in
theorem dX11_takeMessage_69 : decode cX11_takeMessage 69 = .ok (.invokestatic 303, 3) := by decide +kernel
set_option maxRecDepth 20000 in
theorem dX11_takeMessage_72 : decode cX11_takeMessage 72 = .ok (.ifCond .eq 16, 3) := by decide +kernel
set_option maxRecDepth 20000 in
theorem dX11_takeMessage_75 : decode cX11_takeMessage 75 = .ok (.aload_n 1, 1) := by decide +kernel
set_option maxRecDepth 20000 in
theorem dX11_takeMessage_76 : decode cX11_takeMessage 76 = .ok (.aload_n 0, 1) := by decide +kernel
set_option maxRecDepth 20000 in
theorem dX11_takeMessage_77 : decode cX11_takeMessage 77 = .ok (.getfield 21, 3) := by decide +kernel
set_option maxRecDepth 20000 in
theorem dX11_takeMessage_80 : decode cX11_takeMessage 80 = .ok (.aload_n 0, 1) := by decide +kernel
set_option maxRecDepth 20000 in
theorem dX11_takeMessage_81 : decode cX11_takeMessage 81 = .ok (.getfield 24, 3) := by decide +kernel
set_option maxRecDepth 20000 in
theorem dX11_takeMessage_84 : decode cX11_takeMessage 84 = .ok (.invokestatic 163, 3) := by decide +kernel
set_option maxRecDepth 20000 in
theorem dX11_takeMessage_87 : decode cX11_takeMessage 87 = .ok (.pop, 1) := by decide +kernel
set_option maxRecDepth 20000 in
theorem dX11_takeMessage_88 : decode cX11_takeMessage 88 = .ok (.aload_n 0, 1) := by decide +kernel
set_option maxRecDepth 20000 in
theorem dX11_takeMessage_89 : decode cX11_takeMessage 89 = .ok (.getfield 24, 3) := by decide +kernel
set_option maxRecDepth 20000 in
theorem dX11_takeMessage_92 : decode cX11_takeMessage 92 = .ok (.invokevirtual 150, 3) := by decide +kernel
set_option maxRecDepth 20000 in
theorem dX11_takeMessage_95 : decode cX11_takeMessage 95 = .ok (.goto 58, 3) := by decide +kernel
set_option maxRecDepth 20000 in
theorem dX11_takeMessage_98 : decode cX11_takeMessage 98 = .ok (.iload_n 3, 1) := by decide +kernel
set_option maxRecDepth 20000 in
theorem dX11_takeMessage_99 : decode cX11_takeMessage 99 = .ok (.ifCond .eq 40, 3) := by decide +kernel
set_option maxRecDepth 20000 in
theorem dX11_takeMessage_102 : decode cX11_takeMessage 102 = .ok (.aload_n 0, 1) := by decide +kernel
set_option maxRecDepth 20000 in
theorem dX11_takeMessage_103 : decode cX11_takeMessage 103 = .ok (.getfield 21, 3) := by decide +kernel
set_option maxRecDepth 20000 in
theorem dX11_takeMessage_106 : decode cX11_takeMessage 106 = .ok (.iconst 0, 1) := by decide +kernel
set_option maxRecDepth 20000 in
theorem dX11_takeMessage_107 : decode cX11_takeMessage 107 = .ok (.invokevirtual 134, 3) := by decide +kernel
set_option maxRecDepth 20000 in
theorem dX11_takeMessage_110 : decode cX11_takeMessage 110 = .ok (.invokestatic 309, 3) := by decide +kernel
set_option maxRecDepth 20000 in
theorem dX11_takeMessage_113 : decode cX11_takeMessage 113 = .ok (.ifCond .eq 16, 3) := by decide +kernel
set_option maxRecDepth 20000 in
theorem dX11_takeMessage_116 : decode cX11_takeMessage 116 = .ok (.aload_n 1, 1) := by decide +kernel
set_option maxRecDepth 20000 in
theorem dX11_takeMessage_117 : decode cX11_takeMessage 117 = .ok (.aload_n 0, 1) := by decide +kernel
set_option maxRecDepth 20000 in
theorem dX11_takeMessage_118 : decode cX11_takeMessage 118 = .ok (.getfield 21, 3) := by decide +kernel
set_option maxRecDepth 20000 in
theorem dX11_takeMessage_121 : decode cX11_takeMessage 121 = .ok (.aload_n 0, 1) := by decide +kernel
set_option maxRecDepth 20000 in
theorem dX11_takeMessage_122 : decode cX11_takeMessage 122 = .ok (.getfield 24, 3) := by decide +kernel
set_option maxRecDepth 20000 in
theorem dX11_takeMessage_125 : decode cX11_takeMessage 125 = .ok (.invokestatic 163, 3) := by decide +kernel
set_option maxRecDepth 20000 in
theorem dX11_takeMessage_128 : decode cX11_takeMessage 128 = .ok (.pop, 1) := by decide +kernel
set_option maxRecDepth 20000 in
theorem dX11_takeMessage_129 : decode cX11_takeMessage 129 = .ok (.aload_n 0, 1) := by decide +kernel
set_option maxRecDepth 20000 in
theorem dX11_takeMessage_130 : decode cX11_takeMessage 130 = .ok (.getfield 24, 3) := by decide +kernel
set_option maxRecDepth 20000 in
theorem dX11_takeMessage_133 : decode cX11_takeMessage 133 = .ok (.invokevirtual 150, 3) := by decide +kernel
set_option maxRecDepth 20000 in
theorem dX11_takeMessage_136 : decode cX11_takeMessage 136 = .ok (.goto 17, 3) := by decide +kernel
set_option maxRecDepth 20000 in
theorem dX11_takeMessage_139 : decode cX11_takeMessage 139 = .ok (.aload_n 1, 1) := by decide +kernel
set_option maxRecDepth 20000 in
theorem dX11_takeMessage_140 : decode cX11_takeMessage 140 = .ok (.aload_n 0, 1) := by decide +kernel
set_option maxRecDepth 20000 in
theorem dX11_takeMessage_141 : decode cX11_takeMessage 141 = .ok (.getfield 21, 3) := by decide +kernel
set_option maxRecDepth 20000 in
theorem dX11_takeMessage_144 : decode cX11_takeMessage 144 = .ok (.aload_n 0, 1) := by decide +kernel
set_option maxRecDepth 20000 in
theorem dX11_takeMessage_145 : decode cX11_takeMessage 145 = .ok (.getfield 24, 3) := by decide +kernel
set_option maxRecDepth 20000 in
theorem dX11_takeMessage_148 : decode cX11_takeMessage 148 = .ok (.invokestatic 163, 3) := by decide +kernel
set_option maxRecDepth 20000 in
theorem dX11_takeMessage_151 : decode cX11_takeMessage 151 = .ok (.istore 4, 2) := by decide +kernel
set_option maxRecDepth 20000 in
theorem dX11_takeMessage_153 : decode cX11_takeMessage 153 = .ok (.aload_n 1, 1) := by decide +kernel
set_option maxRecDepth 20000 in
theorem dX11_takeMessage_154 : decode cX11_takeMessage 154 = .ok (.aload_n 0, 1) := by decide +kernel
set_option maxRecDepth 20000 in
theorem dX11_takeMessage_155 : decode cX11_takeMessage 155 = .ok (.getfield 24, 3) := by decide +kernel
set_option maxRecDepth 20000 in
theorem dX11_takeMessage_158 : decode cX11_takeMessage 158 = .ok (.iload 4, 2) := by decide +kernel
set_option maxRecDepth 20000 in
theorem dX11_takeMessage_160 : decode cX11_takeMessage 160 = .ok (.invokevirtual 312, 3) := by decide +kernel
set_option maxRecDepth 20000 in
theorem dX11_takeMessage_163 : decode cX11_takeMessage 163 = .ok (.return_, 1) := by decide +kernel
set_option maxRecDepth 20000 in
theorem dX11_result_0 : decode cX11_result 0 = .ok (.aload_n 0, 1) := by decide +kernel
set_option maxRecDepth 20000 in
theorem dX11_result_1 : decode cX11_result 1 = .ok (.getfield 47, 3) := by decide +kernel
set_option maxRecDepth 20000 in
theorem dX11_result_4 : decode cX11_result 4 = .ok (.invokevirtual 316, 3) := by decide +kernel
set_option maxRecDepth 20000 in
theorem dX11_result_7 : decode cX11_result 7 = .ok (.astore_n 2, 1) := by decide +kernel
set_option maxRecDepth 20000 in
theorem dX11_result_8 : decode cX11_result 8 = .ok (.aload_n 2, 1) := by decide +kernel
set_option maxRecDepth 20000 in
theorem dX11_result_9 : decode cX11_result 9 = .ok (.ifnonnull 5, 3) := by decide +kernel
set_option maxRecDepth 20000 in
theorem dX11_result_12 : decode cX11_result 12 = .ok (.iconst (-1), 1) := by decide +kernel
set_option maxRecDepth 20000 in
theorem dX11_result_13 : decode cX11_result 13 = .ok (.ireturn, 1) := by decide +kernel
set_option maxRecDepth 20000 in
theorem dX11_result_14 : decode cX11_result 14 = .ok (.iload_n 1, 1) := by decide +kernel
set_option maxRecDepth 20000 in
theorem dX11_result_15 : decode cX11_result 15 = .ok (.tableswitch 70 0 5 #[37, 42, 47, 52, 57, 65], 37) := by decide +kernel
set_option maxRecDepth 20000 in
theorem dX11_result_52 : decode cX11_result 52 = .ok (.aload_n 2, 1) := by decide +kernel
set_option maxRecDepth 20000 in
theorem dX11_result_53 : decode cX11_result 53 = .ok (.getfield 319, 3) := by decide +kernel
set_option maxRecDepth 20000 in
theorem dX11_result_56 : decode cX11_result 56 = .ok (.ireturn, 1) := by decide +kernel
set_option maxRecDepth 20000 in
theorem dX11_result_57 : decode cX11_result 57 = .ok (.aload_n 2, 1) := by decide +kernel
set_option maxRecDepth 20000 in
theorem dX11_result_58 : decode cX11_result 58 = .ok (.getfield 322, 3) := by decide +kernel
set_option maxRecDepth 20000 in
theorem dX11_result_61 : decode cX11_result 61 = .ok (.ireturn, 1) := by decide +kernel
set_option maxRecDepth 20000 in
theorem dX11_result_62 : decode cX11_result 62 = .ok (.aload_n 2, 1) := by decide +kernel
set_option maxRecDepth 20000 in
theorem dX11_result_63 : decode cX11_result 63 = .ok (.getfield 325, 3) := by decide +kernel
set_option maxRecDepth 20000 in
theorem dX11_result_66 : decode cX11_result 66 = .ok (.ireturn, 1) := by decide +kernel
set_option maxRecDepth 20000 in
theorem dX11_result_67 : decode cX11_result 67 = .ok (.aload_n 2, 1) := by decide +kernel
set_option maxRecDepth 20000 in
theorem dX11_result_68 : decode cX11_result 68 = .ok (.getfield 250, 3) := by decide +kernel
set_option maxRecDepth 20000 in
theorem dX11_result_71 : decode cX11_result 71 = .ok (.ireturn, 1) := by decide +kernel
set_option maxRecDepth 20000 in
theorem dX11_result_72 : decode cX11_result 72 = .ok (.aload_n 2, 1) := by decide +kernel
set_option maxRecDepth 20000 in
theorem dX11_result_73 : decode cX11_result 73 = .ok (.getfield 256, 3) := by decide +kernel
set_option maxRecDepth 20000 in
theorem dX11_result_76 : decode cX11_result 76 = .ok (.getfield 54, 3) := by decide +kernel
set_option maxRecDepth 20000 in
theorem dX11_result_79 : decode cX11_result 79 = .ok (.ireturn, 1) := by decide +kernel
set_option maxRecDepth 20000 in
theorem dX11_result_80 : decode cX11_result 80 = .ok (.aload_n 2, 1) := by decide +kernel
set_option maxRecDepth 20000 in
theorem dX11_result_81 : decode cX11_result 81 = .ok (.getfield 255, 3) := by decide +kernel
set_option maxRecDepth 20000 in
theorem dX11_result_84 : decode cX11_result 84 = .ok (.ireturn, 1) := by decide +kernel
set_option maxRecDepth 20000 in
theorem dX11_result_85 : decode cX11_result 85 = .ok (.iconst (-1), 1) := by decide +kernel
set_option maxRecDepth 20000 in
theorem dX11_result_86 : decode cX11_result 86 = .ok (.ireturn, 1) := by decide +kernel
set_option maxRecDepth 20000 in
theorem dX11_data_0 : decode cX11_data 0 = .ok (.aload_n 0, 1) := by decide +kernel
set_option maxRecDepth 20000 in
theorem dX11_data_1 : decode cX11_data 1 = .ok (.getfield 47, 3) := by decide +kernel
set_option maxRecDepth 20000 in
theorem dX11_data_4 : decode cX11_data 4 = .ok (.invokevirtual 316, 3) := by decide +kernel
set_option maxRecDepth 20000 in
theorem dX11_data_7 : decode cX11_data 7 = .ok (.astore_n 2, 1) := by decide +kernel
set_option maxRecDepth 20000 in
theorem dX11_data_8 : decode cX11_data 8 = .ok (.aload_n 2, 1) := by decide +kernel
set_option maxRecDepth 20000 in
theorem dX11_data_9 : decode cX11_data 9 = .ok (.ifnull 18, 3) := by decide +kernel
set_option maxRecDepth 20000 in
theorem dX11_data_12 : decode cX11_data 12 = .ok (.iload_n 1, 1) := by decide +kernel
set_option maxRecDepth 20000 in
theorem dX11_data_13 : decode cX11_data 13 = .ok (.ifCond .lt 14, 3) := by decide +kernel
set_option maxRecDepth 20000 in
theorem dX11_data_16 : decode cX11_data 16 = .ok (.iload_n 1, 1) := by decide +kernel
set_option maxRecDepth 20000 in
theorem dX11_data_17 : decode cX11_data 17 = .ok (.aload_n 2, 1) := by decide +kernel
set_option maxRecDepth 20000 in
theorem dX11_data_18 : decode cX11_data 18 = .ok (.getfield 256, 3) := by decide +kernel
set_option maxRecDepth 20000 in
theorem dX11_data_21 : decode cX11_data 21 = .ok (.getfield 54, 3) := by decide +kernel
set_option maxRecDepth 20000 in
theorem dX11_data_24 : decode cX11_data 24 = .ok (.if_icmp .lt 14, 3) := by decide +kernel
set_option maxRecDepth 20000 in
theorem dX11_data_27 : decode cX11_data 27 = .ok (.new 328, 3) := by decide +kernel
set_option maxRecDepth 20000 in
theorem dX11_data_30 : decode cX11_data 30 = .ok (.dup, 1) := by decide +kernel
set_option maxRecDepth 20000 in
theorem dX11_data_31 : decode cX11_data 31 = .ok (.ldc_w 330, 3) := by decide +kernel
set_option maxRecDepth 20000 in
theorem dX11_data_34 : decode cX11_data 34 = .ok (.invokespecial 332, 3) := by decide +kernel
set_option maxRecDepth 20000 in
theorem dX11_data_37 : decode cX11_data 37 = .ok (.athrow, 1) := by decide +kernel
set_option maxRecDepth 20000 in
theorem dX11_data_38 : decode cX11_data 38 = .ok (.aload_n 2, 1) := by decide +kernel
set_option maxRecDepth 20000 in
theorem dX11_data_39 : decode cX11_data 39 = .ok (.getfield 256, 3) := by decide +kernel
set_option maxRecDepth 20000 in
theorem dX11_data_42 : decode cX11_data 42 = .ok (.iload_n 1, 1) := by decide +kernel
set_option maxRecDepth 20000 in
theorem dX11_data_43 : decode cX11_data 43 = .ok (.invokevirtual 134, 3) := by decide +kernel
set_option maxRecDepth 20000 in
theorem dX11_data_46 : decode cX11_data 46 = .ok (.ireturn, 1) := by decide +kernel
set_option maxRecDepth 20000 in
theorem dX11_take_0 : decode cX11_take 0 = .ok (.aload_n 0, 1) := by decide +kernel
set_option maxRecDepth 20000 in
theorem dX11_take_1 : decode cX11_take 1 = .ok (.getfield 47, 3) := by decide +kernel
set_option maxRecDepth 20000 in
theorem dX11_take_4 : decode cX11_take 4 = .ok (.invokevirtual 333, 3) := by decide +kernel
set_option maxRecDepth 20000 in
theorem dX11_take_7 : decode cX11_take 7 = .ok (.ireturn, 1) := by decide +kernel
set_option maxRecDepth 20000 in
theorem dX11_state_0 : decode cX11_state 0 = .ok (.iload_n 1, 1) := by decide +kernel
set_option maxRecDepth 20000 in
theorem dX11_state_1 : decode cX11_state 1 = .ok (.tableswitch 231 0 16 #[83, 88, 96, 110, 118, 141, 149, 154, 162, 170, 178, 186, 194, 199, 207, 215, 223], 83) := by decide +kernel
set_option maxRecDepth 20000 in
theorem dX11_state_84 : decode cX11_state 84 = .ok (.aload_n 0, 1) := by decide +kernel
set_option maxRecDepth 20000 in
theorem dX11_state_85 : decode cX11_state 85 = .ok (.getfield 51, 3) := by decide +kernel
set_option maxRecDepth 20000 in
theorem dX11_state_88 : decode cX11_state 88 = .ok (.ireturn, 1) := by decide +kernel
set_option maxRecDepth 20000 in
theorem dX11_state_89 : decode cX11_state 89 = .ok (.aload_n 0, 1) := by decide +kernel
set_option maxRecDepth 20000 in
theorem dX11_state_90 : decode cX11_state 90 = .ok (.getfield 40, 3) := by decide +kernel
set_option maxRecDepth 20000 in
theorem dX11_state_93 : decode cX11_state 93 = .ok (.getfield 211, 3) := by decide +kernel
set_option maxRecDepth 20000 in
theorem dX11_state_96 : decode cX11_state 96 = .ok (.ireturn, 1) := by decide +kernel
set_option maxRecDepth 20000 in
theorem dX11_state_97 : decode cX11_state 97 = .ok (.aload_n 0, 1) := by decide +kernel
set_option maxRecDepth 20000 in
theorem dX11_state_98 : decode cX11_state 98 = .ok (.getfield 40, 3) := by decide +kernel
set_option maxRecDepth 20000 in
theorem dX11_state_101 : decode cX11_state 101 = .ok (.getfield 214, 3) := by decide +kernel
set_option maxRecDepth 20000 in
theorem dX11_state_104 : decode cX11_state 104 = .ok (.sipush 1000, 3) := by decide +kernel
set_option maxRecDepth 20000 in
theorem dX11_state_107 : decode cX11_state 107 = .ok (.invokestatic 336, 3) := by decide +kernel
set_option maxRecDepth 20000 in
theorem dX11_state_110 : decode cX11_state 110 = .ok (.ireturn, 1) := by decide +kernel
set_option maxRecDepth 20000 in
theorem dX11_state_111 : decode cX11_state 111 = .ok (.aload_n 0, 1) := by decide +kernel
set_option maxRecDepth 20000 in
theorem dX11_state_112 : decode cX11_state 112 = .ok (.getfield 47, 3) := by decide +kernel
set_option maxRecDepth 20000 in
theorem dX11_state_115 : decode cX11_state 115 = .ok (.getfield 247, 3) := by decide +kernel
set_option maxRecDepth 20000 in
theorem dX11_state_118 : decode cX11_state 118 = .ok (.ireturn, 1) := by decide +kernel
set_option maxRecDepth 20000 in
theorem dX11_state_119 : decode cX11_state 119 = .ok (.aload_n 0, 1) := by decide +kernel
set_option maxRecDepth 20000 in
theorem dX11_state_120 : decode cX11_state 120 = .ok (.getfield 47, 3) := by decide +kernel
set_option maxRecDepth 20000 in
theorem dX11_state_123 : decode cX11_state 123 = .ok (.getfield 247, 3) := by decide +kernel
set_option maxRecDepth 20000 in
theorem dX11_state_126 : decode cX11_state 126 = .ok (.iconst 2, 1) := by decide +kernel
set_option maxRecDepth 20000 in
theorem dX11_state_127 : decode cX11_state 127 = .ok (.if_icmp .ne 13, 3) := by decide +kernel
set_option maxRecDepth 20000 in
theorem dX11_state_130 : decode cX11_state 130 = .ok (.aload_n 0, 1) := by decide +kernel
set_option maxRecDepth 20000 in
theorem dX11_state_131 : decode cX11_state 131 = .ok (.getfield 47, 3) := by decide +kernel
set_option maxRecDepth 20000 in
theorem dX11_state_134 : decode cX11_state 134 = .ok (.getfield 342, 3) := by decide +kernel
set_option maxRecDepth 20000 in
theorem dX11_state_137 : decode cX11_state 137 = .ok (.goto 4, 3) := by decide +kernel
set_option maxRecDepth 20000 in
theorem dX11_state_140 : decode cX11_state 140 = .ok (.iconst 0, 1) := by decide +kernel
set_option maxRecDepth 20000 in
theorem dX11_state_141 : decode cX11_state 141 = .ok (.ireturn, 1) := by decide +kernel
set_option maxRecDepth 20000 in
theorem dX11_state_142 : decode cX11_state 142 = .ok (.aload_n 0, 1) := by decide +kernel
set_option maxRecDepth 20000 in
theorem dX11_state_143 : decode cX11_state 143 = .ok (.getfield 47, 3) := by decide +kernel
set_option maxRecDepth 20000 in
theorem dX11_state_146 : decode cX11_state 146 = .ok (.getfield 345, 3) := by decide +kernel
set_option maxRecDepth 20000 in
theorem dX11_state_149 : decode cX11_state 149 = .ok (.ireturn, 1) := by decide +kernel
set_option maxRecDepth 20000 in
theorem dX11_state_150 : decode cX11_state 150 = .ok (.aload_n 0, 1) := by decide +kernel
set_option maxRecDepth 20000 in
theorem dX11_state_151 : decode cX11_state 151 = .ok (.invokevirtual 348, 3) := by decide +kernel
set_option maxRecDepth 20000 in
theorem dX11_state_154 : decode cX11_state 154 = .ok (.ireturn, 1) := by decide +kernel
set_option maxRecDepth 20000 in
theorem dX11_state_155 : decode cX11_state 155 = .ok (.aload_n 0, 1) := by decide +kernel
set_option maxRecDepth 20000 in
theorem dX11_state_156 : decode cX11_state 156 = .ok (.getfield 47, 3) := by decide +kernel
set_option maxRecDepth 20000 in
theorem dX11_state_159 : decode cX11_state 159 = .ok (.getfield 351, 3) := by decide +kernel
set_option maxRecDepth 20000 in
theorem dX11_state_162 : decode cX11_state 162 = .ok (.ireturn, 1) := by decide +kernel
set_option maxRecDepth 20000 in
theorem dX11_state_163 : decode cX11_state 163 = .ok (.aload_n 0, 1) := by decide +kernel
set_option maxRecDepth 20000 in
theorem dX11_state_164 : decode cX11_state 164 = .ok (.getfield 47, 3) := by decide +kernel
set_option maxRecDepth 20000 in
theorem dX11_state_167 : decode cX11_state 167 = .ok (.getfield 354, 3) := by decide +kernel
set_option maxRecDepth 20000 in
theorem dX11_state_170 : decode cX11_state 170 = .ok (.ireturn, 1) := by decide +kernel
set_option maxRecDepth 20000 in
theorem dX11_state_171 : decode cX11_state 171 = .ok (.aload_n 0, 1) := by decide +kernel
set_option maxRecDepth 20000 in
theorem dX11_state_172 : decode cX11_state 172 = .ok (.getfield 47, 3) := by decide +kernel
set_option maxRecDepth 20000 in
theorem dX11_state_175 : decode cX11_state 175 = .ok (.getfield 357, 3) := by decide +kernel
set_option maxRecDepth 20000 in
theorem dX11_state_178 : decode cX11_state 178 = .ok (.ireturn, 1) := by decide +kernel
set_option maxRecDepth 20000 in
theorem dX11_state_179 : decode cX11_state 179 = .ok (.aload_n 0, 1) := by decide +kernel
set_option maxRecDepth 20000 in
theorem dX11_state_180 : decode cX11_state 180 = .ok (.getfield 40, 3) := by decide +kernel
set_option maxRecDepth 20000 in
theorem dX11_state_183 : decode cX11_state 183 = .ok (.getfield 199, 3) := by decide +kernel
set_option maxRecDepth 20000 in
theorem dX11_state_186 : decode cX11_state 186 = .ok (.ireturn, 1) := by decide +kernel
set_option maxRecDepth 20000 in
theorem dX11_state_187 : decode cX11_state 187 = .ok (.aload_n 0, 1) := by decide +kernel
set_option maxRecDepth 20000 in
theorem dX11_state_188 : decode cX11_state 188 = .ok (.getfield 40, 3) := by decide +kernel
set_option maxRecDepth 20000 in
theorem dX11_state_191 : decode cX11_state 191 = .ok (.getfield 360, 3) := by decide +kernel
set_option maxRecDepth 20000 in
theorem dX11_state_194 : decode cX11_state 194 = .ok (.ireturn, 1) := by decide +kernel
set_option maxRecDepth 20000 in
theorem dX11_state_195 : decode cX11_state 195 = .ok (.aload_n 0, 1) := by decide +kernel
set_option maxRecDepth 20000 in
theorem dX11_state_196 : decode cX11_state 196 = .ok (.getfield 33, 3) := by decide +kernel
set_option maxRecDepth 20000 in
theorem dX11_state_199 : decode cX11_state 199 = .ok (.ireturn, 1) := by decide +kernel
set_option maxRecDepth 20000 in
theorem dX11_state_200 : decode cX11_state 200 = .ok (.aload_n 0, 1) := by decide +kernel
set_option maxRecDepth 20000 in
theorem dX11_state_201 : decode cX11_state 201 = .ok (.getfield 47, 3) := by decide +kernel
set_option maxRecDepth 20000 in
theorem dX11_state_204 : decode cX11_state 204 = .ok (.getfield 363, 3) := by decide +kernel
set_option maxRecDepth 20000 in
theorem dX11_state_207 : decode cX11_state 207 = .ok (.ireturn, 1) := by decide +kernel
set_option maxRecDepth 20000 in
theorem dX11_state_208 : decode cX11_state 208 = .ok (.aload_n 0, 1) := by decide +kernel
set_option maxRecDepth 20000 in
theorem dX11_state_209 : decode cX11_state 209 = .ok (.getfield 14, 3) := by decide +kernel
set_option maxRecDepth 20000 in
theorem dX11_state_212 : decode cX11_state 212 = .ok (.getfield 54, 3) := by decide +kernel
set_option maxRecDepth 20000 in
theorem dX11_state_215 : decode cX11_state 215 = .ok (.ireturn, 1) := by decide +kernel
set_option maxRecDepth 20000 in
theorem dX11_state_216 : decode cX11_state 216 = .ok (.aload_n 0, 1) := by decide +kernel
set_option maxRecDepth 20000 in
theorem dX11_state_217 : decode cX11_state 217 = .ok (.getfield 18, 3) := by decide +kernel
set_option maxRecDepth 20000 in
theorem dX11_state_220 : decode cX11_state 220 = .ok (.getfield 54, 3) := by decide +kernel
set_option maxRecDepth 20000 in
theorem dX11_state_223 : decode cX11_state 223 = .ok (.ireturn, 1) := by decide +kernel
set_option maxRecDepth 20000 in
theorem dX11_state_224 : decode cX11_state 224 = .ok (.aload_n 0, 1) := by decide +kernel
set_option maxRecDepth 20000 in
theorem dX11_state_225 : decode cX11_state 225 = .ok (.getfield 40, 3) := by decide +kernel
set_option maxRecDepth 20000 in
theorem dX11_state_228 : decode cX11_state 228 = .ok (.getfield 366, 3) := by decide +kernel
set_option maxRecDepth 20000 in
theorem dX11_state_231 : decode cX11_state 231 = .ok (.ireturn, 1) := by decide +kernel
set_option maxRecDepth 20000 in
theorem dX11_state_232 : decode cX11_state 232 = .ok (.iconst (-1), 1) := by decide +kernel
set_option maxRecDepth 20000 in
theorem dX11_state_233 : decode cX11_state 233 = .ok (.ireturn, 1) := by decide +kernel
set_option maxRecDepth 20000 in
theorem dX11_firstAttempts_0 : decode cX11_firstAttempts 0 = .ok (.aload_n 0, 1) := by decide +kernel
set_option maxRecDepth 20000 in
theorem dX11_firstAttempts_1 : decode cX11_firstAttempts 1 = .ok (.getfield 47, 3) := by decide +kernel
set_option maxRecDepth 20000 in
theorem dX11_firstAttempts_4 : decode cX11_firstAttempts 4 = .ok (.invokevirtual 243, 3) := by decide +kernel
set_option maxRecDepth 20000 in
theorem dX11_firstAttempts_7 : decode cX11_firstAttempts 7 = .ok (.astore_n 1, 1) := by decide +kernel
set_option maxRecDepth 20000 in
theorem dX11_firstAttempts_8 : decode cX11_firstAttempts 8 = .ok (.aload_n 1, 1) := by decide +kernel
set_option maxRecDepth 20000 in
theorem dX11_firstAttempts_9 : decode cX11_firstAttempts 9 = .ok (.ifnonnull 7, 3) := by decide +kernel
set_option maxRecDepth 20000 in
theorem dX11_firstAttempts_12 : decode cX11_firstAttempts 12 = .ok (.iconst 0, 1) := by decide +kernel
set_option maxRecDepth 20000 in
theorem dX11_firstAttempts_13 : decode cX11_firstAttempts 13 = .ok (.goto 7, 3) := by decide +kernel
set_option maxRecDepth 20000 in
theorem dX11_firstAttempts_16 : decode cX11_firstAttempts 16 = .ok (.aload_n 1, 1) := by decide +kernel
set_option maxRecDepth 20000 in
theorem dX11_firstAttempts_17 : decode cX11_firstAttempts 17 = .ok (.getfield 250, 3) := by decide +kernel
set_option maxRecDepth 20000 in
theorem dX11_firstAttempts_20 : decode cX11_firstAttempts 20 = .ok (.ireturn, 1) := by decide +kernel
set_option maxRecDepth 20000 in
theorem dX11_counter_0 : decode cX11_counter 0 = .ok (.aload_n 0, 1) := by decide +kernel
set_option maxRecDepth 20000 in
theorem dX11_counter_1 : decode cX11_counter 1 = .ok (.iload_n 1, 1) := by decide +kernel
set_option maxRecDepth 20000 in
theorem dX11_counter_2 : decode cX11_counter 2 = .ok (.invokevirtual 82, 3) := by decide +kernel
set_option maxRecDepth 20000 in
theorem dX11_counter_5 : decode cX11_counter 5 = .ok (.astore_n 3, 1) := by decide +kernel
set_option maxRecDepth 20000 in
theorem dX11_counter_6 : decode cX11_counter 6 = .ok (.aload_n 3, 1) := by decide +kernel
set_option maxRecDepth 20000 in
theorem dX11_counter_7 : decode cX11_counter 7 = .ok (.ifnonnull 5, 3) := by decide +kernel
set_option maxRecDepth 20000 in
theorem dX11_counter_10 : decode cX11_counter 10 = .ok (.iconst (-1), 1) := by decide +kernel
set_option maxRecDepth 20000 in
theorem dX11_counter_11 : decode cX11_counter 11 = .ok (.ireturn, 1) := by decide +kernel
set_option maxRecDepth 20000 in
theorem dX11_counter_12 : decode cX11_counter 12 = .ok (.iload_n 2, 1) := by decide +kernel
set_option maxRecDepth 20000 in
theorem dX11_counter_13 : decode cX11_counter 13 = .ok (.tableswitch 134 9 16 #[47, 60, 68, 73, 97, 102, 113, 129], 47) := by decide +kernel
set_option maxRecDepth 20000 in
theorem dX11_counter_60 : decode cX11_counter 60 = .ok (.aload_n 3, 1) := by decide +kernel
set_option maxRecDepth 20000 in
theorem dX11_counter_61 : decode cX11_counter 61 = .ok (.getfield 299, 3) := by decide +kernel
set_option maxRecDepth 20000 in
theorem dX11_counter_64 : decode cX11_counter 64 = .ok (.ifCond .eq 7, 3) := by decide +kernel
set_option maxRecDepth 20000 in
theorem dX11_counter_67 : decode cX11_counter 67 = .ok (.iconst 1, 1) := by decide +kernel
set_option maxRecDepth 20000 in
theorem dX11_counter_68 : decode cX11_counter 68 = .ok (.goto 4, 3) := by decide +kernel
set_option maxRecDepth 20000 in
theorem dX11_counter_71 : decode cX11_counter 71 = .ok (.iconst 0, 1) := by decide +kernel
set_option maxRecDepth 20000 in
theorem dX11_counter_72 : decode cX11_counter 72 = .ok (.ireturn, 1) := by decide +kernel
set_option maxRecDepth 20000 in
theorem dX11_counter_73 : decode cX11_counter 73 = .ok (.aload_n 3, 1) := by decide +kernel
set_option maxRecDepth 20000 in
theorem dX11_counter_74 : decode cX11_counter 74 = .ok (.getfield 369, 3) := by decide +kernel
set_option maxRecDepth 20000 in
theorem dX11_counter_77 : decode cX11_counter 77 = .ok (.getfield 54, 3) := by decide +kernel
set_option maxRecDepth 20000 in
theorem dX11_counter_80 : decode cX11_counter 80 = .ok (.ireturn, 1) := by decide +kernel
set_option maxRecDepth 20000 in
theorem dX11_counter_81 : decode cX11_counter 81 = .ok (.aload_n 3, 1) := by decide +kernel
set_option maxRecDepth 20000 in
theorem dX11_counter_82 : decode cX11_counter 82 = .ok (.getfield 156, 3) := by decide +kernel
set_option maxRecDepth 20000 in
theorem dX11_counter_85 : decode cX11_counter 85 = .ok (.ireturn, 1) := by decide +kernel
set_option maxRecDepth 20000 in
theorem dX11_counter_86 : decode cX11_counter 86 = .ok (.aload_n 3, 1) := by decide +kernel
set_option maxRecDepth 20000 in
theorem dX11_counter_87 : decode cX11_counter 87 = .ok (.getfield 263, 3) := by decide +kernel
set_option maxRecDepth 20000 in
theorem dX11_counter_90 : decode cX11_counter 90 = .ok (.getfield 54, 3) := by decide +kernel
set_option maxRecDepth 20000 in
theorem dX11_counter_93 : decode cX11_counter 93 = .ok (.ifCond .le 15, 3) := by decide +kernel
set_option maxRecDepth 20000 in
theorem dX11_counter_96 : decode cX11_counter 96 = .ok (.aload_n 3, 1) := by decide +kernel
set_option maxRecDepth 20000 in
theorem dX11_counter_97 : decode cX11_counter 97 = .ok (.getfield 263, 3) := by decide +kernel
set_option maxRecDepth 20000 in
theorem dX11_counter_100 : decode cX11_counter 100 = .ok (.getfield 54, 3) := by decide +kernel
set_option maxRecDepth 20000 in
theorem dX11_counter_103 : decode cX11_counter 103 = .ok (.iconst 3, 1) := by decide +kernel
set_option maxRecDepth 20000 in
theorem dX11_counter_104 : decode cX11_counter 104 = .ok (.iadd, 1) := by decide +kernel
set_option maxRecDepth 20000 in
theorem dX11_counter_105 : decode cX11_counter 105 = .ok (.goto 4, 3) := by decide +kernel
set_option maxRecDepth 20000 in
theorem dX11_counter_108 : decode cX11_counter 108 = .ok (.iconst 0, 1) := by decide +kernel
set_option maxRecDepth 20000 in
theorem dX11_counter_109 : decode cX11_counter 109 = .ok (.ireturn, 1) := by decide +kernel
set_option maxRecDepth 20000 in
theorem dX11_counter_110 : decode cX11_counter 110 = .ok (.aload_n 3, 1) := by decide +kernel
set_option maxRecDepth 20000 in
theorem dX11_counter_111 : decode cX11_counter 111 = .ok (.getfield 266, 3) := by decide +kernel
set_option maxRecDepth 20000 in
theorem dX11_counter_114 : decode cX11_counter 114 = .ok (.ireturn, 1) := by decide +kernel
set_option maxRecDepth 20000 in
theorem dX11_counter_115 : decode cX11_counter 115 = .ok (.aload_n 3, 1) := by decide +kernel
set_option maxRecDepth 20000 in
theorem dX11_counter_116 : decode cX11_counter 116 = .ok (.getfield 278, 3) := by decide +kernel
set_option maxRecDepth 20000 in
theorem dX11_counter_119 : decode cX11_counter 119 = .ok (.getfield 296, 3) := by decide +kernel
set_option maxRecDepth 20000 in
theorem dX11_counter_122 : decode cX11_counter 122 = .ok (.getfield 54, 3) := by decide +kernel
set_option maxRecDepth 20000 in
theorem dX11_counter_125 : decode cX11_counter 125 = .ok (.ireturn, 1) := by decide +kernel
set_option maxRecDepth 20000 in
theorem dX11_counter_126 : decode cX11_counter 126 = .ok (.aload_n 3, 1) := by decide +kernel
set_option maxRecDepth 20000 in
theorem dX11_counter_127 : decode cX11_counter 127 = .ok (.getfield 278, 3) := by decide +kernel
set_option maxRecDepth 20000 in
theorem dX11_counter_130 : decode cX11_counter 130 = .ok (.getfield 372, 3) := by decide +kernel
set_option maxRecDepth 20000 in
theorem dX11_counter_133 : decode cX11_counter 133 = .ok (.ifCond .eq 7, 3) := by decide +kernel
set_option maxRecDepth 20000 in
theorem dX11_counter_136 : decode cX11_counter 136 = .ok (.iconst 1, 1) := by decide +kernel
set_option maxRecDepth 20000 in
theorem dX11_counter_137 : decode cX11_counter 137 = .ok (.goto 4, 3) := by decide +kernel
set_option maxRecDepth 20000 in
theorem dX11_counter_140 : decode cX11_counter 140 = .ok (.iconst 0, 1) := by decide +kernel
set_option maxRecDepth 20000 in
theorem dX11_counter_141 : decode cX11_counter 141 = .ok (.ireturn, 1) := by decide +kernel
set_option maxRecDepth 20000 in
theorem dX11_counter_142 : decode cX11_counter 142 = .ok (.aload_n 3, 1) := by decide +kernel
set_option maxRecDepth 20000 in
theorem dX11_counter_143 : decode cX11_counter 143 = .ok (.getfield 86, 3) := by decide +kernel
set_option maxRecDepth 20000 in
theorem dX11_counter_146 : decode cX11_counter 146 = .ok (.ireturn, 1) := by decide +kernel
set_option maxRecDepth 20000 in
theorem dX11_counter_147 : decode cX11_counter 147 = .ok (.iload_n 2, 1) := by decide +kernel
set_option maxRecDepth 20000 in
theorem dX11_counter_148 : decode cX11_counter 148 = .ok (.iconst 0, 1) := by decide +kernel
set_option maxRecDepth 20000 in
theorem dX11_counter_149 : decode cX11_counter 149 = .ok (.bipush 8, 2) := by decide +kernel
set_option maxRecDepth 20000 in
theorem dX11_counter_151 : decode cX11_counter 151 = .ok (.invokestatic 71, 3) := by decide +kernel
set_option maxRecDepth 20000 in
theorem dX11_counter_154 : decode cX11_counter 154 = .ok (.ifCond .eq 11, 3) := by decide +kernel
set_option maxRecDepth 20000 in
theorem dX11_counter_157 : decode cX11_counter 157 = .ok (.aload_n 3, 1) := by decide +kernel
set_option maxRecDepth 20000 in
theorem dX11_counter_158 : decode cX11_counter 158 = .ok (.iload_n 2, 1) := by decide +kernel
set_option maxRecDepth 20000 in
theorem dX11_counter_159 : decode cX11_counter 159 = .ok (.invokevirtual 375, 3) := by decide +kernel
set_option maxRecDepth 20000 in
theorem dX11_counter_162 : decode cX11_counter 162 = .ok (.goto 4, 3) := by decide +kernel
set_option maxRecDepth 20000 in
theorem dX11_counter_165 : decode cX11_counter 165 = .ok (.iconst (-1), 1) := by decide +kernel
set_option maxRecDepth 20000 in
theorem dX11_counter_166 : decode cX11_counter 166 = .ok (.ireturn, 1) := by decide +kernel
set_option maxRecDepth 20000 in
theorem dX11_event_0 : decode cX11_event 0 = .ok (.aload_n 0, 1) := by decide +kernel
set_option maxRecDepth 20000 in
theorem dX11_event_1 : decode cX11_event 1 = .ok (.iload_n 1, 1) := by decide +kernel
set_option maxRecDepth 20000 in
theorem dX11_event_2 : decode cX11_event 2 = .ok (.invokevirtual 82, 3) := by decide +kernel
set_option maxRecDepth 20000 in
theorem dX11_event_5 : decode cX11_event 5 = .ok (.astore_n 3, 1) := by decide +kernel
set_option maxRecDepth 20000 in
theorem dX11_event_6 : decode cX11_event 6 = .ok (.aload_n 3, 1) := by decide +kernel
set_option maxRecDepth 20000 in
theorem dX11_event_7 : decode cX11_event 7 = .ok (.ifnull 18, 3) := by decide +kernel
set_option maxRecDepth 20000 in
theorem dX11_event_10 : decode cX11_event 10 = .ok (.iload_n 2, 1) := by decide +kernel
set_option maxRecDepth 20000 in
theorem dX11_event_11 : decode cX11_event 11 = .ok (.ifCond .lt 14, 3) := by decide +kernel
set_option maxRecDepth 20000 in
theorem dX11_event_14 : decode cX11_event 14 = .ok (.iload_n 2, 1) := by decide +kernel
set_option maxRecDepth 20000 in
theorem dX11_event_15 : decode cX11_event 15 = .ok (.aload_n 3, 1) := by decide +kernel
set_option maxRecDepth 20000 in
theorem dX11_event_16 : decode cX11_event 16 = .ok (.getfield 369, 3) := by decide +kernel
set_option maxRecDepth 20000 in
theorem dX11_event_19 : decode cX11_event 19 = .ok (.getfield 54, 3) := by decide +kernel
set_option maxRecDepth 20000 in
theorem dX11_event_22 : decode cX11_event 22 = .ok (.if_icmp .lt 7, 3) := by decide +kernel
set_option maxRecDepth 20000 in
theorem dX11_event_25 : decode cX11_event 25 = .ok (.iconst (-1), 1) := by decide +kernel
set_option maxRecDepth 20000 in
theorem dX11_event_26 : decode cX11_event 26 = .ok (.goto 21, 3) := by decide +kernel
set_option maxRecDepth 20000 in
theorem dX11_event_29 : decode cX11_event 29 = .ok (.aload_n 3, 1) := by decide +kernel
set_option maxRecDepth 20000 in
theorem dX11_event_30 : decode cX11_event 30 = .ok (.getfield 369, 3) := by decide +kernel
set_option maxRecDepth 20000 in
theorem dX11_event_33 : decode cX11_event 33 = .ok (.aload_n 3, 1) := by decide +kernel
set_option maxRecDepth 20000 in
theorem dX11_event_34 : decode cX11_event 34 = .ok (.getfield 369, 3) := by decide +kernel
set_option maxRecDepth 20000 in
theorem dX11_event_37 : decode cX11_event 37 = .ok (.getfield 54, 3) := by decide +kernel
set_option maxRecDepth 20000 in
theorem dX11_event_40 : decode cX11_event 40 = .ok (.iconst 1, 1) := by decide +kernel
set_option maxRecDepth 20000 in
theorem dX11_event_41 : decode cX11_event 41 = .ok (.isub, 1) := by decide +kernel
set_option maxRecDepth 20000 in
theorem dX11_event_42 : decode cX11_event 42 = .ok (.iload_n 2, 1) := by decide +kernel
set_option maxRecDepth 20000 in
theorem dX11_event_43 : decode cX11_event 43 = .ok (.isub, 1) := by decide +kernel
set_option maxRecDepth 20000 in
theorem dX11_event_44 : decode cX11_event 44 = .ok (.invokevirtual 134, 3) := by decide +kernel
set_option maxRecDepth 20000 in
theorem dX11_event_47 : decode cX11_event 47 = .ok (.ireturn, 1) := by decide +kernel
set_option maxRecDepth 20000 in
theorem dX11_sent_0 : decode cX11_sent 0 = .ok (.aload_n 0, 1) := by decide +kernel
set_option maxRecDepth 20000 in
theorem dX11_sent_1 : decode cX11_sent 1 = .ok (.getfield 40, 3) := by decide +kernel
set_option maxRecDepth 20000 in
theorem dX11_sent_4 : decode cX11_sent 4 = .ok (.getfield 378, 3) := by decide +kernel
set_option maxRecDepth 20000 in
theorem dX11_sent_7 : decode cX11_sent 7 = .ok (.iload_n 1, 1) := by decide +kernel
set_option maxRecDepth 20000 in
theorem dX11_sent_8 : decode cX11_sent 8 = .ok (.invokevirtual 169, 3) := by decide +kernel
set_option maxRecDepth 20000 in
theorem dX11_sent_11 : decode cX11_sent 11 = .ok (.ireturn, 1) := by decide +kernel
