theorem dX0_init_0 : decode cX0_init 0 = .ok (.aload_n 0, 1) := by decide +kernel
theorem dX0_init_1 : decode cX0_init 1 = .ok (.iload_n 1, 1) := by decide +kernel
theorem dX0_init_2 : decode cX0_init 2 = .ok (.iload_n 2, 1) := by decide +kernel
theorem dX0_init_3 : decode cX0_init 3 = .ok (.invokespecial 1, 3) := by decide +kernel
theorem dX0_init_6 : decode cX0_init 6 = .ok (.return_, 1) := by decide +kernel
theorem dX0_kindTold_0 : decode cX0_kindTold 0 = .ok (.iconst 4, 1) := by decide +kernel
theorem dX0_kindTold_1 : decode cX0_kindTold 1 = .ok (.ireturn, 1) := by decide +kernel
theorem dX0_fallBy_0 : decode cX0_fallBy 0 = .ok (.iload_n 1, 1) := by decide +kernel
theorem dX0_fallBy_1 : decode cX0_fallBy 1 = .ok (.iconst 2, 1) := by decide +kernel
theorem dX0_fallBy_2 : decode cX0_fallBy 2 = .ok (.idiv, 1) := by decide +kernel
theorem dX0_fallBy_3 : decode cX0_fallBy 3 = .ok (.istore_n 3, 1) := by decide +kernel
theorem dX0_fallBy_4 : decode cX0_fallBy 4 = .ok (.iload_n 2, 1) := by decide +kernel
theorem dX0_fallBy_5 : decode cX0_fallBy 5 = .ok (.iconst 2, 1) := by decide +kernel
theorem dX0_fallBy_6 : decode cX0_fallBy 6 = .ok (.irem, 1) := by decide +kernel
theorem dX0_fallBy_7 : decode cX0_fallBy 7 = .ok (.ifCond .ne 7, 3) := by decide +kernel
theorem dX0_fallBy_10 : decode cX0_fallBy 10 = .ok (.iload_n 3, 1) := by decide +kernel
theorem dX0_fallBy_11 : decode cX0_fallBy 11 = .ok (.goto 6, 3) := by decide +kernel
theorem dX0_fallBy_14 : decode cX0_fallBy 14 = .ok (.iload_n 1, 1) := by decide +kernel
theorem dX0_fallBy_15 : decode cX0_fallBy 15 = .ok (.iload_n 3, 1) := by decide +kernel
theorem dX0_fallBy_16 : decode cX0_fallBy 16 = .ok (.isub, 1) := by decide +kernel
theorem dX0_fallBy_17 : decode cX0_fallBy 17 = .ok (.ireturn, 1) := by decide +kernel
theorem dX0_askSize_0 : decode cX0_askSize 0 = .ok (.aload_n 1, 1) := by decide +kernel
theorem dX0_askSize_1 : decode cX0_askSize 1 = .ok (.bipush 13, 2) := by decide +kernel
theorem dX0_askSize_3 : decode cX0_askSize 3 = .ok (.invokevirtual 7, 3) := by decide +kernel
theorem dX0_askSize_6 : decode cX0_askSize 6 = .ok (.aload_n 0, 1) := by decide +kernel
theorem dX0_askSize_7 : decode cX0_askSize 7 = .ok (.aload_n 1, 1) := by decide +kernel
theorem dX0_askSize_8 : decode cX0_askSize 8 = .ok (.iload_n 2, 1) := by decide +kernel
theorem dX0_askSize_9 : decode cX0_askSize 9 = .ok (.invokespecial 13, 3) := by decide +kernel
theorem dX0_askSize_12 : decode cX0_askSize 12 = .ok (.bipush 100, 2) := by decide +kernel
theorem dX0_askSize_14 : decode cX0_askSize 14 = .ok (.isub, 1) := by decide +kernel
theorem dX0_askSize_15 : decode cX0_askSize 15 = .ok (.ireturn, 1) := by decide +kernel
theorem dX0_askMark_0 : decode cX0_askMark 0 = .ok (.aload_n 1, 1) := by decide +kernel
theorem dX0_askMark_1 : decode cX0_askMark 1 = .ok (.bipush 23, 2) := by decide +kernel
theorem dX0_askMark_3 : decode cX0_askMark 3 = .ok (.invokevirtual 7, 3) := by decide +kernel
theorem dX0_askMark_6 : decode cX0_askMark 6 = .ok (.aload_n 0, 1) := by decide +kernel
theorem dX0_askMark_7 : decode cX0_askMark 7 = .ok (.aload_n 1, 1) := by decide +kernel
theorem dX0_askMark_8 : decode cX0_askMark 8 = .ok (.iload_n 2, 1) := by decide +kernel
theorem dX0_askMark_9 : decode cX0_askMark 9 = .ok (.invokespecial 17, 3) := by decide +kernel
theorem dX0_askMark_12 : decode cX0_askMark 12 = .ok (.istore_n 3, 1) := by decide +kernel
theorem dX0_askMark_13 : decode cX0_askMark 13 = .ok (.iload_n 3, 1) := by decide +kernel
theorem dX0_askMark_14 : decode cX0_askMark 14 = .ok (.aload_n 0, 1) := by decide +kernel
theorem dX0_askMark_15 : decode cX0_askMark 15 = .ok (.aload_n 1, 1) := by decide +kernel
theorem dX0_askMark_16 : decode cX0_askMark 16 = .ok (.iload_n 2, 1) := by decide +kernel
theorem dX0_askMark_17 : decode cX0_askMark 17 = .ok (.invokevirtual 20, 3) := by decide +kernel
theorem dX0_askMark_20 : decode cX0_askMark 20 = .ok (.isub, 1) := by decide +kernel
theorem dX0_askMark_21 : decode cX0_askMark 21 = .ok (.ireturn, 1) := by decide +kernel
theorem dX1_init_0 : decode cX1_init 0 = .ok (.aload_n 0, 1) := by decide +kernel
theorem dX1_init_1 : decode cX1_init 1 = .ok (.iload_n 1, 1) := by decide +kernel
theorem dX1_init_2 : decode cX1_init 2 = .ok (.iload_n 2, 1) := by decide +kernel
theorem dX1_init_3 : decode cX1_init 3 = .ok (.invokespecial 1, 3) := by decide +kernel
theorem dX1_init_6 : decode cX1_init 6 = .ok (.return_, 1) := by decide +kernel
theorem dX1_kindTold_0 : decode cX1_kindTold 0 = .ok (.iconst 5, 1) := by decide +kernel
theorem dX1_kindTold_1 : decode cX1_kindTold 1 = .ok (.ireturn, 1) := by decide +kernel
theorem dX1_fallBy_0 : decode cX1_fallBy 0 = .ok (.iconst 0, 1) := by decide +kernel
theorem dX1_fallBy_1 : decode cX1_fallBy 1 = .ok (.ireturn, 1) := by decide +kernel
theorem dX1_askSize_0 : decode cX1_askSize 0 = .ok (.aload_n 1, 1) := by decide +kernel
theorem dX1_askSize_1 : decode cX1_askSize 1 = .ok (.bipush 14, 2) := by decide +kernel
theorem dX1_askSize_3 : decode cX1_askSize 3 = .ok (.invokevirtual 7, 3) := by decide +kernel
theorem dX1_askSize_6 : decode cX1_askSize 6 = .ok (.iconst 2, 1) := by decide +kernel
theorem dX1_askSize_7 : decode cX1_askSize 7 = .ok (.aload_n 0, 1) := by decide +kernel
theorem dX1_askSize_8 : decode cX1_askSize 8 = .ok (.aload_n 1, 1) := by decide +kernel
theorem dX1_askSize_9 : decode cX1_askSize 9 = .ok (.iload_n 2, 1) := by decide +kernel
theorem dX1_askSize_10 : decode cX1_askSize 10 = .ok (.invokespecial 13, 3) := by decide +kernel
theorem dX1_askSize_13 : decode cX1_askSize 13 = .ok (.imul, 1) := by decide +kernel
theorem dX1_askSize_14 : decode cX1_askSize 14 = .ok (.ireturn, 1) := by decide +kernel
theorem dX2_init_0 : decode cX2_init 0 = .ok (.aload_n 0, 1) := by decide +kernel
theorem dX2_init_1 : decode cX2_init 1 = .ok (.iload_n 1, 1) := by decide +kernel
theorem dX2_init_2 : decode cX2_init 2 = .ok (.iload_n 2, 1) := by decide +kernel
theorem dX2_init_3 : decode cX2_init 3 = .ok (.invokespecial 3, 3) := by decide +kernel
theorem dX2_init_6 : decode cX2_init 6 = .ok (.return_, 1) := by decide +kernel
theorem dX2_kindTold_0 : decode cX2_kindTold 0 = .ok (.iconst 3, 1) := by decide +kernel
theorem dX2_kindTold_1 : decode cX2_kindTold 1 = .ok (.ireturn, 1) := by decide +kernel
theorem dX2_fallBy_0 : decode cX2_fallBy 0 = .ok (.iload_n 2, 1) := by decide +kernel
theorem dX2_fallBy_1 : decode cX2_fallBy 1 = .ok (.bipush 24, 2) := by decide +kernel
theorem dX2_fallBy_3 : decode cX2_fallBy 3 = .ok (.irem, 1) := by decide +kernel
theorem dX2_fallBy_4 : decode cX2_fallBy 4 = .ok (.istore_n 3, 1) := by decide +kernel
theorem dX2_fallBy_5 : decode cX2_fallBy 5 = .ok (.iload_n 3, 1) := by decide +kernel
theorem dX2_fallBy_6 : decode cX2_fallBy 6 = .ok (.iconst 5, 1) := by decide +kernel
theorem dX2_fallBy_7 : decode cX2_fallBy 7 = .ok (.if_icmp .le 9, 3) := by decide +kernel
theorem dX2_fallBy_10 : decode cX2_fallBy 10 = .ok (.iload_n 3, 1) := by decide +kernel
theorem dX2_fallBy_11 : decode cX2_fallBy 11 = .ok (.bipush 18, 2) := by decide +kernel
theorem dX2_fallBy_13 : decode cX2_fallBy 13 = .ok (.if_icmp .lt 9, 3) := by decide +kernel
theorem dX2_fallBy_16 : decode cX2_fallBy 16 = .ok (.iconst 2, 1) := by decide +kernel
theorem dX2_fallBy_17 : decode cX2_fallBy 17 = .ok (.iload_n 1, 1) := by decide +kernel
theorem dX2_fallBy_18 : decode cX2_fallBy 18 = .ok (.imul, 1) := by decide +kernel
theorem dX2_fallBy_19 : decode cX2_fallBy 19 = .ok (.goto 4, 3) := by decide +kernel
theorem dX2_fallBy_22 : decode cX2_fallBy 22 = .ok (.iload_n 1, 1) := by decide +kernel
theorem dX2_fallBy_23 : decode cX2_fallBy 23 = .ok (.ireturn, 1) := by decide +kernel
theorem dX2_askMark_0 : decode cX2_askMark 0 = .ok (.aload_n 1, 1) := by decide +kernel
theorem dX2_askMark_1 : decode cX2_askMark 1 = .ok (.bipush 22, 2) := by decide +kernel
theorem dX2_askMark_3 : decode cX2_askMark 3 = .ok (.invokevirtual 9, 3) := by decide +kernel
theorem dX2_askMark_6 : decode cX2_askMark 6 = .ok (.aload_n 0, 1) := by decide +kernel
theorem dX2_askMark_7 : decode cX2_askMark 7 = .ok (.aload_n 1, 1) := by decide +kernel
theorem dX2_askMark_8 : decode cX2_askMark 8 = .ok (.iload_n 2, 1) := by decide +kernel
theorem dX2_askMark_9 : decode cX2_askMark 9 = .ok (.invokespecial 15, 3) := by decide +kernel
theorem dX2_askMark_12 : decode cX2_askMark 12 = .ok (.sipush 1000, 3) := by decide +kernel
theorem dX2_askMark_15 : decode cX2_askMark 15 = .ok (.isub, 1) := by decide +kernel
theorem dX2_askMark_16 : decode cX2_askMark 16 = .ok (.ireturn, 1) := by decide +kernel
theorem dX4_init_0 : decode cX4_init 0 = .ok (.aload_n 0, 1) := by decide +kernel
theorem dX4_init_1 : decode cX4_init 1 = .ok (.iload_n 1, 1) := by decide +kernel
theorem dX4_init_2 : decode cX4_init 2 = .ok (.iload_n 2, 1) := by decide +kernel
theorem dX4_init_3 : decode cX4_init 3 = .ok (.invokespecial 1, 3) := by decide +kernel
theorem dX4_init_6 : decode cX4_init 6 = .ok (.return_, 1) := by decide +kernel
theorem dX4_kindTold_0 : decode cX4_kindTold 0 = .ok (.iconst 1, 1) := by decide +kernel
theorem dX4_kindTold_1 : decode cX4_kindTold 1 = .ok (.ireturn, 1) := by decide +kernel
theorem dX4_askSize_0 : decode cX4_askSize 0 = .ok (.aload_n 1, 1) := by decide +kernel
theorem dX4_askSize_1 : decode cX4_askSize 1 = .ok (.bipush 11, 2) := by decide +kernel
theorem dX4_askSize_3 : decode cX4_askSize 3 = .ok (.invokevirtual 7, 3) := by decide +kernel
theorem dX4_askSize_6 : decode cX4_askSize 6 = .ok (.aload_n 0, 1) := by decide +kernel
theorem dX4_askSize_7 : decode cX4_askSize 7 = .ok (.aload_n 1, 1) := by decide +kernel
theorem dX4_askSize_8 : decode cX4_askSize 8 = .ok (.iload_n 2, 1) := by decide +kernel
theorem dX4_askSize_9 : decode cX4_askSize 9 = .ok (.invokespecial 13, 3) := by decide +kernel
theorem dX4_askSize_12 : decode cX4_askSize 12 = .ok (.istore_n 3, 1) := by decide +kernel
theorem dX4_askSize_13 : decode cX4_askSize 13 = .ok (.iload_n 3, 1) := by decide +kernel
theorem dX4_askSize_14 : decode cX4_askSize 14 = .ok (.aload_n 0, 1) := by decide +kernel
theorem dX4_askSize_15 : decode cX4_askSize 15 = .ok (.aload_n 1, 1) := by decide +kernel
theorem dX4_askSize_16 : decode cX4_askSize 16 = .ok (.iload_n 2, 1) := by decide +kernel
theorem dX4_askSize_17 : decode cX4_askSize 17 = .ok (.invokevirtual 17, 3) := by decide +kernel
theorem dX4_askSize_20 : decode cX4_askSize 20 = .ok (.iadd, 1) := by decide +kernel
theorem dX4_askSize_21 : decode cX4_askSize 21 = .ok (.ireturn, 1) := by decide +kernel
theorem dX4_askMark_0 : decode cX4_askMark 0 = .ok (.aload_n 1, 1) := by decide +kernel
theorem dX4_askMark_1 : decode cX4_askMark 1 = .ok (.bipush 21, 2) := by decide +kernel
theorem dX4_askMark_3 : decode cX4_askMark 3 = .ok (.invokevirtual 7, 3) := by decide +kernel
theorem dX4_askMark_6 : decode cX4_askMark 6 = .ok (.aload_n 0, 1) := by decide +kernel
theorem dX4_askMark_7 : decode cX4_askMark 7 = .ok (.aload_n 1, 1) := by decide +kernel
theorem dX4_askMark_8 : decode cX4_askMark 8 = .ok (.iload_n 2, 1) := by decide +kernel
theorem dX4_askMark_9 : decode cX4_askMark 9 = .ok (.invokespecial 22, 3) := by decide +kernel
theorem dX4_askMark_12 : decode cX4_askMark 12 = .ok (.iload_n 2, 1) := by decide +kernel
theorem dX4_askMark_13 : decode cX4_askMark 13 = .ok (.iadd, 1) := by decide +kernel
theorem dX4_askMark_14 : decode cX4_askMark 14 = .ok (.ireturn, 1) := by decide +kernel
theorem dX5_init_0 : decode cX5_init 0 = .ok (.aload_n 0, 1) := by decide +kernel
theorem dX5_init_1 : decode cX5_init 1 = .ok (.invokespecial 1, 3) := by decide +kernel
theorem dX5_init_4 : decode cX5_init 4 = .ok (.aload_n 0, 1) := by decide +kernel
theorem dX5_init_5 : decode cX5_init 5 = .ok (.iload_n 1, 1) := by decide +kernel
theorem dX5_init_6 : decode cX5_init 6 = .ok (.putfield 7, 3) := by decide +kernel
theorem dX5_init_9 : decode cX5_init 9 = .ok (.aload_n 0, 1) := by decide +kernel
theorem dX5_init_10 : decode cX5_init 10 = .ok (.iload_n 2, 1) := by decide +kernel
theorem dX5_init_11 : decode cX5_init 11 = .ok (.putfield 13, 3) := by decide +kernel
theorem dX5_init_14 : decode cX5_init 14 = .ok (.return_, 1) := by decide +kernel
theorem dX5_fallBy_0 : decode cX5_fallBy 0 = .ok (.iload_n 1, 1) := by decide +kernel
theorem dX5_fallBy_1 : decode cX5_fallBy 1 = .ok (.ireturn, 1) := by decide +kernel
theorem dX5_sunIn_0 : decode cX5_sunIn 0 = .ok (.iconst 0, 1) := by decide +kernel
theorem dX5_sunIn_1 : decode cX5_sunIn 1 = .ok (.ireturn, 1) := by decide +kernel
theorem dX5_askSize_0 : decode cX5_askSize 0 = .ok (.aload_n 1, 1) := by decide +kernel
theorem dX5_askSize_1 : decode cX5_askSize 1 = .ok (.bipush 10, 2) := by decide +kernel
theorem dX5_askSize_3 : decode cX5_askSize 3 = .ok (.invokevirtual 16, 3) := by decide +kernel
theorem dX5_askSize_6 : decode cX5_askSize 6 = .ok (.aload_n 0, 1) := by decide +kernel
theorem dX5_askSize_7 : decode cX5_askSize 7 = .ok (.getfield 13, 3) := by decide +kernel
theorem dX5_askSize_10 : decode cX5_askSize 10 = .ok (.ireturn, 1) := by decide +kernel
theorem dX5_askMark_0 : decode cX5_askMark 0 = .ok (.aload_n 1, 1) := by decide +kernel
theorem dX5_askMark_1 : decode cX5_askMark 1 = .ok (.bipush 20, 2) := by decide +kernel
theorem dX5_askMark_3 : decode cX5_askMark 3 = .ok (.invokevirtual 16, 3) := by decide +kernel
theorem dX5_askMark_6 : decode cX5_askMark 6 = .ok (.aload_n 0, 1) := by decide +kernel
theorem dX5_askMark_7 : decode cX5_askMark 7 = .ok (.getfield 7, 3) := by decide +kernel
theorem dX5_askMark_10 : decode cX5_askMark 10 = .ok (.ireturn, 1) := by decide +kernel
theorem dX6_init_0 : decode cX6_init 0 = .ok (.aload_n 0, 1) := by decide +kernel
theorem dX6_init_1 : decode cX6_init 1 = .ok (.invokespecial 3, 3) := by decide +kernel
theorem dX6_init_4 : decode cX6_init 4 = .ok (.aload_n 0, 1) := by decide +kernel
theorem dX6_init_5 : decode cX6_init 5 = .ok (.bipush 7, 2) := by decide +kernel
theorem dX6_init_7 : decode cX6_init 7 = .ok (.anewarray 9, 3) := by decide +kernel
theorem dX6_init_10 : decode cX6_init 10 = .ok (.putfield 11, 3) := by decide +kernel
theorem dX6_init_13 : decode cX6_init 13 = .ok (.aload_n 0, 1) := by decide +kernel
theorem dX6_init_14 : decode cX6_init 14 = .ok (.iconst 4, 1) := by decide +kernel
theorem dX6_init_15 : decode cX6_init 15 = .ok (.newarray .int, 2) := by decide +kernel
theorem dX6_init_17 : decode cX6_init 17 = .ok (.putfield 17, 3) := by decide +kernel
theorem dX6_init_20 : decode cX6_init 20 = .ok (.aload_n 0, 1) := by decide +kernel
theorem dX6_init_21 : decode cX6_init 21 = .ok (.iconst 4, 1) := by decide +kernel
theorem dX6_init_22 : decode cX6_init 22 = .ok (.newarray .int, 2) := by decide +kernel
theorem dX6_init_24 : decode cX6_init 24 = .ok (.putfield 21, 3) := by decide +kernel
theorem dX6_init_27 : decode cX6_init 27 = .ok (.return_, 1) := by decide +kernel
theorem dX6_addPlace_0 : decode cX6_addPlace 0 = .ok (.aload_n 0, 1) := by decide +kernel
theorem dX6_addPlace_1 : decode cX6_addPlace 1 = .ok (.getfield 24, 3) := by decide +kernel
theorem dX6_addPlace_4 : decode cX6_addPlace 4 = .ok (.bipush 7, 2) := by decide +kernel
theorem dX6_addPlace_6 : decode cX6_addPlace 6 = .ok (.if_icmp .ge 23, 3) := by decide +kernel
theorem dX6_addPlace_9 : decode cX6_addPlace 9 = .ok (.aload_n 0, 1) := by decide +kernel
theorem dX6_addPlace_10 : decode cX6_addPlace 10 = .ok (.getfield 11, 3) := by decide +kernel
theorem dX6_addPlace_13 : decode cX6_addPlace 13 = .ok (.aload_n 0, 1) := by decide +kernel
theorem dX6_addPlace_14 : decode cX6_addPlace 14 = .ok (.getfield 24, 3) := by decide +kernel
theorem dX6_addPlace_17 : decode cX6_addPlace 17 = .ok (.aload_n 1, 1) := by decide +kernel
theorem dX6_addPlace_18 : decode cX6_addPlace 18 = .ok (.aastore, 1) := by decide +kernel
theorem dX6_addPlace_19 : decode cX6_addPlace 19 = .ok (.aload_n 0, 1) := by decide +kernel
theorem dX6_addPlace_20 : decode cX6_addPlace 20 = .ok (.dup, 1) := by decide +kernel
theorem dX6_addPlace_21 : decode cX6_addPlace 21 = .ok (.getfield 24, 3) := by decide +kernel
theorem dX6_addPlace_24 : decode cX6_addPlace 24 = .ok (.iconst 1, 1) := by decide +kernel
theorem dX6_addPlace_25 : decode cX6_addPlace 25 = .ok (.iadd, 1) := by decide +kernel
theorem dX6_addPlace_26 : decode cX6_addPlace 26 = .ok (.putfield 24, 3) := by decide +kernel
theorem dX6_addPlace_29 : decode cX6_addPlace 29 = .ok (.return_, 1) := by decide +kernel
theorem dX6_addReader_0 : decode cX6_addReader 0 = .ok (.aload_n 0, 1) := by decide +kernel
theorem dX6_addReader_1 : decode cX6_addReader 1 = .ok (.getfield 28, 3) := by decide +kernel
theorem dX6_addReader_4 : decode cX6_addReader 4 = .ok (.iconst 4, 1) := by decide +kernel
theorem dX6_addReader_5 : decode cX6_addReader 5 = .ok (.if_icmp .ge 33, 3) := by decide +kernel
theorem dX6_addReader_8 : decode cX6_addReader 8 = .ok (.aload_n 0, 1) := by decide +kernel
theorem dX6_addReader_9 : decode cX6_addReader 9 = .ok (.getfield 17, 3) := by decide +kernel
theorem dX6_addReader_12 : decode cX6_addReader 12 = .ok (.aload_n 0, 1) := by decide +kernel
theorem dX6_addReader_13 : decode cX6_addReader 13 = .ok (.getfield 28, 3) := by decide +kernel
theorem dX6_addReader_16 : decode cX6_addReader 16 = .ok (.iload_n 1, 1) := by decide +kernel
theorem dX6_addReader_17 : decode cX6_addReader 17 = .ok (.iastore, 1) := by decide +kernel
theorem dX6_addReader_18 : decode cX6_addReader 18 = .ok (.aload_n 0, 1) := by decide +kernel
theorem dX6_addReader_19 : decode cX6_addReader 19 = .ok (.getfield 21, 3) := by decide +kernel
theorem dX6_addReader_22 : decode cX6_addReader 22 = .ok (.aload_n 0, 1) := by decide +kernel
theorem dX6_addReader_23 : decode cX6_addReader 23 = .ok (.getfield 28, 3) := by decide +kernel
theorem dX6_addReader_26 : decode cX6_addReader 26 = .ok (.iload_n 2, 1) := by decide +kernel
theorem dX6_addReader_27 : decode cX6_addReader 27 = .ok (.iastore, 1) := by decide +kernel
theorem dX6_addReader_28 : decode cX6_addReader 28 = .ok (.aload_n 0, 1) := by decide +kernel
theorem dX6_addReader_29 : decode cX6_addReader 29 = .ok (.dup, 1) := by decide +kernel
theorem dX6_addReader_30 : decode cX6_addReader 30 = .ok (.getfield 28, 3) := by decide +kernel
theorem dX6_addReader_33 : decode cX6_addReader 33 = .ok (.iconst 1, 1) := by decide +kernel
theorem dX6_addReader_34 : decode cX6_addReader 34 = .ok (.iadd, 1) := by decide +kernel
theorem dX6_addReader_35 : decode cX6_addReader 35 = .ok (.putfield 28, 3) := by decide +kernel
theorem dX6_addReader_38 : decode cX6_addReader 38 = .ok (.return_, 1) := by decide +kernel
theorem dX6_comers_0 : decode cX6_comers 0 = .ok (.iload_n 1, 1) := by decide +kernel
theorem dX6_comers_1 : decode cX6_comers 1 = .ok (.bipush 24, 2) := by decide +kernel
theorem dX6_comers_3 : decode cX6_comers 3 = .ok (.irem, 1) := by decide +kernel
theorem dX6_comers_4 : decode cX6_comers 4 = .ok (.istore_n 2, 1) := by decide +kernel
theorem dX6_comers_5 : decode cX6_comers 5 = .ok (.iconst 0, 1) := by decide +kernel
theorem dX6_comers_6 : decode cX6_comers 6 = .ok (.istore_n 3, 1) := by decide +kernel
theorem dX6_comers_7 : decode cX6_comers 7 = .ok (.iconst 0, 1) := by decide +kernel
theorem dX6_comers_8 : decode cX6_comers 8 = .ok (.istore 4, 2) := by decide +kernel
theorem dX6_comers_10 : decode cX6_comers 10 = .ok (.iload 4, 2) := by decide +kernel
theorem dX6_comers_12 : decode cX6_comers 12 = .ok (.aload_n 0, 1) := by decide +kernel
theorem dX6_comers_13 : decode cX6_comers 13 = .ok (.getfield 28, 3) := by decide +kernel
theorem dX6_comers_16 : decode cX6_comers 16 = .ok (.if_icmp .ge 38, 3) := by decide +kernel
theorem dX6_comers_19 : decode cX6_comers 19 = .ok (.aload_n 0, 1) := by decide +kernel
theorem dX6_comers_20 : decode cX6_comers 20 = .ok (.getfield 17, 3) := by decide +kernel
theorem dX6_comers_23 : decode cX6_comers 23 = .ok (.iload 4, 2) := by decide +kernel
theorem dX6_comers_25 : decode cX6_comers 25 = .ok (.iaload, 1) := by decide +kernel
theorem dX6_comers_26 : decode cX6_comers 26 = .ok (.iload_n 2, 1) := by decide +kernel
theorem dX6_comers_27 : decode cX6_comers 27 = .ok (.if_icmp .gt 21, 3) := by decide +kernel
theorem dX6_comers_30 : decode cX6_comers 30 = .ok (.iload_n 2, 1) := by decide +kernel
theorem dX6_comers_31 : decode cX6_comers 31 = .ok (.aload_n 0, 1) := by decide +kernel
theorem dX6_comers_32 : decode cX6_comers 32 = .ok (.getfield 21, 3) := by decide +kernel
theorem dX6_comers_35 : decode cX6_comers 35 = .ok (.iload 4, 2) := by decide +kernel
theorem dX6_comers_37 : decode cX6_comers 37 = .ok (.iaload, 1) := by decide +kernel
theorem dX6_comers_38 : decode cX6_comers 38 = .ok (.if_icmp .gt 10, 3) := by decide +kernel
theorem dX6_comers_41 : decode cX6_comers 41 = .ok (.iload_n 3, 1) := by decide +kernel
theorem dX6_comers_42 : decode cX6_comers 42 = .ok (.iconst 1, 1) := by decide +kernel
theorem dX6_comers_43 : decode cX6_comers 43 = .ok (.iload 4, 2) := by decide +kernel
theorem dX6_comers_45 : decode cX6_comers 45 = .ok (.ishl, 1) := by decide +kernel
theorem dX6_comers_46 : decode cX6_comers 46 = .ok (.ior, 1) := by decide +kernel
theorem dX6_comers_47 : decode cX6_comers 47 = .ok (.istore_n 3, 1) := by decide +kernel
theorem dX6_comers_48 : decode cX6_comers 48 = .ok (.iinc 4 1, 3) := by decide +kernel
theorem dX6_comers_51 : decode cX6_comers 51 = .ok (.goto (-41), 3) := by decide +kernel
theorem dX6_comers_54 : decode cX6_comers 54 = .ok (.iload_n 3, 1) := by decide +kernel
theorem dX6_comers_55 : decode cX6_comers 55 = .ok (.ireturn, 1) := by decide +kernel
theorem dX8_init_0 : decode cX8_init 0 = .ok (.aload_n 0, 1) := by decide +kernel
theorem dX8_init_1 : decode cX8_init 1 = .ok (.invokespecial 3, 3) := by decide +kernel
theorem dX8_init_4 : decode cX8_init 4 = .ok (.aload_n 0, 1) := by decide +kernel
theorem dX8_init_5 : decode cX8_init 5 = .ok (.bipush 8, 2) := by decide +kernel
theorem dX8_init_7 : decode cX8_init 7 = .ok (.bipush 40, 2) := by decide +kernel
theorem dX8_init_9 : decode cX8_init 9 = .ok (.multianewarray 9 2, 4) := by decide +kernel
theorem dX8_init_13 : decode cX8_init 13 = .ok (.putfield 11, 3) := by decide +kernel
theorem dX8_init_16 : decode cX8_init 16 = .ok (.aload_n 0, 1) := by decide +kernel
theorem dX8_init_17 : decode cX8_init 17 = .ok (.bipush 8, 2) := by decide +kernel
theorem dX8_init_19 : decode cX8_init 19 = .ok (.newarray .int, 2) := by decide +kernel
theorem dX8_init_21 : decode cX8_init 21 = .ok (.putfield 16, 3) := by decide +kernel
theorem dX8_init_24 : decode cX8_init 24 = .ok (.aload_n 0, 1) := by decide +kernel
theorem dX8_init_25 : decode cX8_init 25 = .ok (.bipush 8, 2) := by decide +kernel
theorem dX8_init_27 : decode cX8_init 27 = .ok (.newarray .int, 2) := by decide +kernel
theorem dX8_init_29 : decode cX8_init 29 = .ok (.putfield 20, 3) := by decide +kernel
theorem dX8_init_32 : decode cX8_init 32 = .ok (.aload_n 0, 1) := by decide +kernel
theorem dX8_init_33 : decode cX8_init 33 = .ok (.getfield 20, 3) := by decide +kernel
theorem dX8_init_36 : decode cX8_init 36 = .ok (.iconst (-1), 1) := by decide +kernel
theorem dX8_init_37 : decode cX8_init 37 = .ok (.invokestatic 23, 3) := by decide +kernel
theorem dX8_init_40 : decode cX8_init 40 = .ok (.return_, 1) := by decide +kernel
theorem dX8_isRow_0 : decode cX8_isRow 0 = .ok (.iload_n 1, 1) := by decide +kernel
theorem dX8_isRow_1 : decode cX8_isRow 1 = .ok (.ifCond .lt 13, 3) := by decide +kernel
theorem dX8_isRow_4 : decode cX8_isRow 4 = .ok (.iload_n 1, 1) := by decide +kernel
theorem dX8_isRow_5 : decode cX8_isRow 5 = .ok (.bipush 8, 2) := by decide +kernel
theorem dX8_isRow_7 : decode cX8_isRow 7 = .ok (.if_icmp .ge 7, 3) := by decide +kernel
theorem dX8_isRow_10 : decode cX8_isRow 10 = .ok (.iconst 1, 1) := by decide +kernel
theorem dX8_isRow_11 : decode cX8_isRow 11 = .ok (.goto 4, 3) := by decide +kernel
theorem dX8_isRow_14 : decode cX8_isRow 14 = .ok (.iconst 0, 1) := by decide +kernel
theorem dX8_isRow_15 : decode cX8_isRow 15 = .ok (.ireturn, 1) := by decide +kernel
theorem dX8_isMissing_0 : decode cX8_isMissing 0 = .ok (.aload_n 0, 1) := by decide +kernel
theorem dX8_isMissing_1 : decode cX8_isMissing 1 = .ok (.getfield 20, 3) := by decide +kernel
theorem dX8_isMissing_4 : decode cX8_isMissing 4 = .ok (.iload_n 1, 1) := by decide +kernel
theorem dX8_isMissing_5 : decode cX8_isMissing 5 = .ok (.iaload, 1) := by decide +kernel
theorem dX8_isMissing_6 : decode cX8_isMissing 6 = .ok (.ifCond .ge 7, 3) := by decide +kernel
theorem dX8_isMissing_9 : decode cX8_isMissing 9 = .ok (.iconst 1, 1) := by decide +kernel
theorem dX8_isMissing_10 : decode cX8_isMissing 10 = .ok (.goto 4, 3) := by decide +kernel
theorem dX8_isMissing_13 : decode cX8_isMissing 13 = .ok (.iconst 0, 1) := by decide +kernel
theorem dX8_isMissing_14 : decode cX8_isMissing 14 = .ok (.ireturn, 1) := by decide +kernel
theorem dX8_howMany_0 : decode cX8_howMany 0 = .ok (.iconst 0, 1) := by decide +kernel
theorem dX8_howMany_1 : decode cX8_howMany 1 = .ok (.istore_n 1, 1) := by decide +kernel
theorem dX8_howMany_2 : decode cX8_howMany 2 = .ok (.iconst 0, 1) := by decide +kernel
theorem dX8_howMany_3 : decode cX8_howMany 3 = .ok (.istore_n 2, 1) := by decide +kernel
theorem dX8_howMany_4 : decode cX8_howMany 4 = .ok (.iload_n 2, 1) := by decide +kernel
theorem dX8_howMany_5 : decode cX8_howMany 5 = .ok (.bipush 8, 2) := by decide +kernel
theorem dX8_howMany_7 : decode cX8_howMany 7 = .ok (.if_icmp .ge 25, 3) := by decide +kernel
theorem dX8_howMany_10 : decode cX8_howMany 10 = .ok (.iload_n 1, 1) := by decide +kernel
theorem dX8_howMany_11 : decode cX8_howMany 11 = .ok (.aload_n 0, 1) := by decide +kernel
theorem dX8_howMany_12 : decode cX8_howMany 12 = .ok (.iload_n 2, 1) := by decide +kernel
theorem dX8_howMany_13 : decode cX8_howMany 13 = .ok (.invokevirtual 29, 3) := by decide +kernel
theorem dX8_howMany_16 : decode cX8_howMany 16 = .ok (.ifCond .eq 7, 3) := by decide +kernel
theorem dX8_howMany_19 : decode cX8_howMany 19 = .ok (.iconst 0, 1) := by decide +kernel
theorem dX8_howMany_20 : decode cX8_howMany 20 = .ok (.goto 4, 3) := by decide +kernel
theorem dX8_howMany_23 : decode cX8_howMany 23 = .ok (.iconst 1, 1) := by decide +kernel
theorem dX8_howMany_24 : decode cX8_howMany 24 = .ok (.iadd, 1) := by decide +kernel
theorem dX8_howMany_25 : decode cX8_howMany 25 = .ok (.istore_n 1, 1) := by decide +kernel
theorem dX8_howMany_26 : decode cX8_howMany 26 = .ok (.iinc 2 1, 3) := by decide +kernel
theorem dX8_howMany_29 : decode cX8_howMany 29 = .ok (.goto (-25), 3) := by decide +kernel
theorem dX8_howMany_32 : decode cX8_howMany 32 = .ok (.iload_n 1, 1) := by decide +kernel
theorem dX8_howMany_33 : decode cX8_howMany 33 = .ok (.ireturn, 1) := by decide +kernel
theorem dX8_lay_0 : decode cX8_lay 0 = .ok (.aload_n 0, 1) := by decide +kernel
theorem dX8_lay_1 : decode cX8_lay 1 = .ok (.getfield 16, 3) := by decide +kernel
theorem dX8_lay_4 : decode cX8_lay 4 = .ok (.iload_n 1, 1) := by decide +kernel
theorem dX8_lay_5 : decode cX8_lay 5 = .ok (.iload_n 2, 1) := by decide +kernel
theorem dX8_lay_6 : decode cX8_lay 6 = .ok (.iastore, 1) := by decide +kernel
theorem dX8_lay_7 : decode cX8_lay 7 = .ok (.aload_n 0, 1) := by decide +kernel
theorem dX8_lay_8 : decode cX8_lay 8 = .ok (.getfield 20, 3) := by decide +kernel
theorem dX8_lay_11 : decode cX8_lay 11 = .ok (.iload_n 1, 1) := by decide +kernel
theorem dX8_lay_12 : decode cX8_lay 12 = .ok (.iload_n 3, 1) := by decide +kernel
theorem dX8_lay_13 : decode cX8_lay 13 = .ok (.iastore, 1) := by decide +kernel
theorem dX8_lay_14 : decode cX8_lay 14 = .ok (.aload_n 0, 1) := by decide +kernel
theorem dX8_lay_15 : decode cX8_lay 15 = .ok (.getfield 11, 3) := by decide +kernel
theorem dX8_lay_18 : decode cX8_lay 18 = .ok (.iload_n 1, 1) := by decide +kernel
theorem dX8_lay_19 : decode cX8_lay 19 = .ok (.aaload, 1) := by decide +kernel
theorem dX8_lay_20 : decode cX8_lay 20 = .ok (.iconst 0, 1) := by decide +kernel
theorem dX8_lay_21 : decode cX8_lay 21 = .ok (.invokestatic 23, 3) := by decide +kernel
theorem dX8_lay_24 : decode cX8_lay 24 = .ok (.return_, 1) := by decide +kernel
theorem dX8_remove_0 : decode cX8_remove 0 = .ok (.aload_n 0, 1) := by decide +kernel
theorem dX8_remove_1 : decode cX8_remove 1 = .ok (.getfield 20, 3) := by decide +kernel
theorem dX8_remove_4 : decode cX8_remove 4 = .ok (.iload_n 1, 1) := by decide +kernel
theorem dX8_remove_5 : decode cX8_remove 5 = .ok (.iaload, 1) := by decide +kernel
theorem dX8_remove_6 : decode cX8_remove 6 = .ok (.istore_n 2, 1) := by decide +kernel
theorem dX8_remove_7 : decode cX8_remove 7 = .ok (.aload_n 0, 1) := by decide +kernel
theorem dX8_remove_8 : decode cX8_remove 8 = .ok (.getfield 20, 3) := by decide +kernel
theorem dX8_remove_11 : decode cX8_remove 11 = .ok (.iload_n 1, 1) := by decide +kernel
theorem dX8_remove_12 : decode cX8_remove 12 = .ok (.iconst (-1), 1) := by decide +kernel
theorem dX8_remove_13 : decode cX8_remove 13 = .ok (.iastore, 1) := by decide +kernel
theorem dX8_remove_14 : decode cX8_remove 14 = .ok (.iload_n 2, 1) := by decide +kernel
theorem dX8_remove_15 : decode cX8_remove 15 = .ok (.ireturn, 1) := by decide +kernel
theorem dX8_findingAt_0 : decode cX8_findingAt 0 = .ok (.aload_n 0, 1) := by decide +kernel
theorem dX8_findingAt_1 : decode cX8_findingAt 1 = .ok (.iload_n 1, 1) := by decide +kernel
theorem dX8_findingAt_2 : decode cX8_findingAt 2 = .ok (.invokevirtual 29, 3) := by decide +kernel
theorem dX8_findingAt_5 : decode cX8_findingAt 5 = .ok (.ifCond .eq 5, 3) := by decide +kernel
theorem dX8_findingAt_8 : decode cX8_findingAt 8 = .ok (.iconst 1, 1) := by decide +kernel
theorem dX8_findingAt_9 : decode cX8_findingAt 9 = .ok (.ireturn, 1) := by decide +kernel
theorem dX8_findingAt_10 : decode cX8_findingAt 10 = .ok (.aload_n 0, 1) := by decide +kernel
theorem dX8_findingAt_11 : decode cX8_findingAt 11 = .ok (.iload_n 1, 1) := by decide +kernel
theorem dX8_findingAt_12 : decode cX8_findingAt 12 = .ok (.iload_n 2, 1) := by decide +kernel
theorem dX8_findingAt_13 : decode cX8_findingAt 13 = .ok (.iload_n 3, 1) := by decide +kernel
theorem dX8_findingAt_14 : decode cX8_findingAt 14 = .ok (.invokevirtual 33, 3) := by decide +kernel
theorem dX8_findingAt_17 : decode cX8_findingAt 17 = .ok (.ifCond .eq 7, 3) := by decide +kernel
theorem dX8_findingAt_20 : decode cX8_findingAt 20 = .ok (.iconst 0, 1) := by decide +kernel
theorem dX8_findingAt_21 : decode cX8_findingAt 21 = .ok (.goto 4, 3) := by decide +kernel
theorem dX8_findingAt_24 : decode cX8_findingAt 24 = .ok (.iconst 2, 1) := by decide +kernel
theorem dX8_findingAt_25 : decode cX8_findingAt 25 = .ok (.ireturn, 1) := by decide +kernel
theorem dX8_findingBetween_0 : decode cX8_findingBetween 0 = .ok (.aload_n 0, 1) := by decide +kernel
theorem dX8_findingBetween_1 : decode cX8_findingBetween 1 = .ok (.iload_n 1, 1) := by decide +kernel
theorem dX8_findingBetween_2 : decode cX8_findingBetween 2 = .ok (.invokevirtual 29, 3) := by decide +kernel
theorem dX8_findingBetween_5 : decode cX8_findingBetween 5 = .ok (.ifCond .ne 11, 3) := by decide +kernel
theorem dX8_findingBetween_8 : decode cX8_findingBetween 8 = .ok (.aload_n 0, 1) := by decide +kernel
theorem dX8_findingBetween_9 : decode cX8_findingBetween 9 = .ok (.iload_n 3, 1) := by decide +kernel
theorem dX8_findingBetween_10 : decode cX8_findingBetween 10 = .ok (.invokevirtual 29, 3) := by decide +kernel
theorem dX8_findingBetween_13 : decode cX8_findingBetween 13 = .ok (.ifCond .eq 5, 3) := by decide +kernel
theorem dX8_findingBetween_16 : decode cX8_findingBetween 16 = .ok (.iconst 1, 1) := by decide +kernel
theorem dX8_findingBetween_17 : decode cX8_findingBetween 17 = .ok (.ireturn, 1) := by decide +kernel
theorem dX8_findingBetween_18 : decode cX8_findingBetween 18 = .ok (.aload_n 0, 1) := by decide +kernel
theorem dX8_findingBetween_19 : decode cX8_findingBetween 19 = .ok (.getfield 16, 3) := by decide +kernel
theorem dX8_findingBetween_22 : decode cX8_findingBetween 22 = .ok (.iload_n 1, 1) := by decide +kernel
theorem dX8_findingBetween_23 : decode cX8_findingBetween 23 = .ok (.iaload, 1) := by decide +kernel
theorem dX8_findingBetween_24 : decode cX8_findingBetween 24 = .ok (.aload_n 0, 1) := by decide +kernel
theorem dX8_findingBetween_25 : decode cX8_findingBetween 25 = .ok (.getfield 16, 3) := by decide +kernel
theorem dX8_findingBetween_28 : decode cX8_findingBetween 28 = .ok (.iload_n 3, 1) := by decide +kernel
theorem dX8_findingBetween_29 : decode cX8_findingBetween 29 = .ok (.iaload, 1) := by decide +kernel
theorem dX8_findingBetween_30 : decode cX8_findingBetween 30 = .ok (.if_icmp .eq 5, 3) := by decide +kernel
theorem dX8_findingBetween_33 : decode cX8_findingBetween 33 = .ok (.iconst 5, 1) := by decide +kernel
theorem dX8_findingBetween_34 : decode cX8_findingBetween 34 = .ok (.ireturn, 1) := by decide +kernel
theorem dX8_findingBetween_35 : decode cX8_findingBetween 35 = .ok (.aload_n 0, 1) := by decide +kernel
theorem dX8_findingBetween_36 : decode cX8_findingBetween 36 = .ok (.iload_n 1, 1) := by decide +kernel
theorem dX8_findingBetween_37 : decode cX8_findingBetween 37 = .ok (.iload_n 2, 1) := by decide +kernel
theorem dX8_findingBetween_38 : decode cX8_findingBetween 38 = .ok (.iload 5, 2) := by decide +kernel
theorem dX8_findingBetween_40 : decode cX8_findingBetween 40 = .ok (.invokevirtual 33, 3) := by decide +kernel
theorem dX8_findingBetween_43 : decode cX8_findingBetween 43 = .ok (.ifCond .eq 19, 3) := by decide +kernel
theorem dX8_findingBetween_46 : decode cX8_findingBetween 46 = .ok (.aload_n 0, 1) := by decide +kernel
theorem dX8_findingBetween_47 : decode cX8_findingBetween 47 = .ok (.iload_n 3, 1) := by decide +kernel
theorem dX8_findingBetween_48 : decode cX8_findingBetween 48 = .ok (.iload 4, 2) := by decide +kernel
theorem dX8_findingBetween_50 : decode cX8_findingBetween 50 = .ok (.iload 5, 2) := by decide +kernel
theorem dX8_findingBetween_52 : decode cX8_findingBetween 52 = .ok (.invokevirtual 33, 3) := by decide +kernel
theorem dX8_findingBetween_55 : decode cX8_findingBetween 55 = .ok (.ifCond .eq 7, 3) := by decide +kernel
theorem dX8_findingBetween_58 : decode cX8_findingBetween 58 = .ok (.iconst 0, 1) := by decide +kernel
theorem dX8_findingBetween_59 : decode cX8_findingBetween 59 = .ok (.goto 4, 3) := by decide +kernel
theorem dX8_findingBetween_62 : decode cX8_findingBetween 62 = .ok (.iconst 2, 1) := by decide +kernel
theorem dX8_findingBetween_63 : decode cX8_findingBetween 63 = .ok (.ireturn, 1) := by decide +kernel
theorem dX8_isWithin_0 : decode cX8_isWithin 0 = .ok (.iload_n 2, 1) := by decide +kernel
theorem dX8_isWithin_1 : decode cX8_isWithin 1 = .ok (.ifCond .lt 23, 3) := by decide +kernel
theorem dX8_isWithin_4 : decode cX8_isWithin 4 = .ok (.iload_n 3, 1) := by decide +kernel
theorem dX8_isWithin_5 : decode cX8_isWithin 5 = .ok (.ifCond .lt 19, 3) := by decide +kernel
theorem dX8_isWithin_8 : decode cX8_isWithin 8 = .ok (.iload_n 2, 1) := by decide +kernel
theorem dX8_isWithin_9 : decode cX8_isWithin 9 = .ok (.aload_n 0, 1) := by decide +kernel
theorem dX8_isWithin_10 : decode cX8_isWithin 10 = .ok (.getfield 20, 3) := by decide +kernel
theorem dX8_isWithin_13 : decode cX8_isWithin 13 = .ok (.iload_n 1, 1) := by decide +kernel
theorem dX8_isWithin_14 : decode cX8_isWithin 14 = .ok (.iaload, 1) := by decide +kernel
theorem dX8_isWithin_15 : decode cX8_isWithin 15 = .ok (.iload_n 3, 1) := by decide +kernel
theorem dX8_isWithin_16 : decode cX8_isWithin 16 = .ok (.isub, 1) := by decide +kernel
theorem dX8_isWithin_17 : decode cX8_isWithin 17 = .ok (.if_icmp .gt 7, 3) := by decide +kernel
theorem dX8_isWithin_20 : decode cX8_isWithin 20 = .ok (.iconst 1, 1) := by decide +kernel
theorem dX8_isWithin_21 : decode cX8_isWithin 21 = .ok (.goto 4, 3) := by decide +kernel
theorem dX8_isWithin_24 : decode cX8_isWithin 24 = .ok (.iconst 0, 1) := by decide +kernel
theorem dX8_isWithin_25 : decode cX8_isWithin 25 = .ok (.ireturn, 1) := by decide +kernel
theorem dX8_put_0 : decode cX8_put 0 = .ok (.iload_n 3, 1) := by decide +kernel
theorem dX8_put_1 : decode cX8_put 1 = .ok (.istore 4, 2) := by decide +kernel
theorem dX8_put_3 : decode cX8_put 3 = .ok (.aload_n 0, 1) := by decide +kernel
theorem dX8_put_4 : decode cX8_put 4 = .ok (.getfield 16, 3) := by decide +kernel
theorem dX8_put_7 : decode cX8_put 7 = .ok (.iload_n 1, 1) := by decide +kernel
theorem dX8_put_8 : decode cX8_put 8 = .ok (.iaload, 1) := by decide +kernel
theorem dX8_put_9 : decode cX8_put 9 = .ok (.ifCond .ne 10, 3) := by decide +kernel
theorem dX8_put_12 : decode cX8_put 12 = .ok (.iload_n 3, 1) := by decide +kernel
theorem dX8_put_13 : decode cX8_put 13 = .ok (.i2b, 1) := by decide +kernel
theorem dX8_put_14 : decode cX8_put 14 = .ok (.istore 4, 2) := by decide +kernel
theorem dX8_put_16 : decode cX8_put 16 = .ok (.goto 17, 3) := by decide +kernel
theorem dX8_put_19 : decode cX8_put 19 = .ok (.aload_n 0, 1) := by decide +kernel
theorem dX8_put_20 : decode cX8_put 20 = .ok (.getfield 16, 3) := by decide +kernel
theorem dX8_put_23 : decode cX8_put 23 = .ok (.iload_n 1, 1) := by decide +kernel
theorem dX8_put_24 : decode cX8_put 24 = .ok (.iaload, 1) := by decide +kernel
theorem dX8_put_25 : decode cX8_put 25 = .ok (.iconst 1, 1) := by decide +kernel
theorem dX8_put_26 : decode cX8_put 26 = .ok (.if_icmp .ne 7, 3) := by decide +kernel
theorem dX8_put_29 : decode cX8_put 29 = .ok (.iload_n 3, 1) := by decide +kernel
theorem dX8_put_30 : decode cX8_put 30 = .ok (.i2s, 1) := by decide +kernel
theorem dX8_put_31 : decode cX8_put 31 = .ok (.istore 4, 2) := by decide +kernel
theorem dX8_put_33 : decode cX8_put 33 = .ok (.aload_n 0, 1) := by decide +kernel
theorem dX8_put_34 : decode cX8_put 34 = .ok (.getfield 11, 3) := by decide +kernel
theorem dX8_put_37 : decode cX8_put 37 = .ok (.iload_n 1, 1) := by decide +kernel
theorem dX8_put_38 : decode cX8_put 38 = .ok (.aaload, 1) := by decide +kernel
theorem dX8_put_39 : decode cX8_put 39 = .ok (.iload_n 2, 1) := by decide +kernel
theorem dX8_put_40 : decode cX8_put 40 = .ok (.iload 4, 2) := by decide +kernel
theorem dX8_put_42 : decode cX8_put 42 = .ok (.iastore, 1) := by decide +kernel
theorem dX8_put_43 : decode cX8_put 43 = .ok (.iload 4, 2) := by decide +kernel
theorem dX8_put_45 : decode cX8_put 45 = .ok (.ireturn, 1) := by decide +kernel
theorem dX8_itemAt_0 : decode cX8_itemAt 0 = .ok (.aload_n 0, 1) := by decide +kernel
theorem dX8_itemAt_1 : decode cX8_itemAt 1 = .ok (.getfield 11, 3) := by decide +kernel
theorem dX8_itemAt_4 : decode cX8_itemAt 4 = .ok (.iload_n 1, 1) := by decide +kernel
theorem dX8_itemAt_5 : decode cX8_itemAt 5 = .ok (.aaload, 1) := by decide +kernel
theorem dX8_itemAt_6 : decode cX8_itemAt 6 = .ok (.iload_n 2, 1) := by decide +kernel
theorem dX8_itemAt_7 : decode cX8_itemAt 7 = .ok (.iaload, 1) := by decide +kernel
theorem dX8_itemAt_8 : decode cX8_itemAt 8 = .ok (.ireturn, 1) := by decide +kernel
theorem dX8_carry_0 : decode cX8_carry 0 = .ok (.aload_n 0, 1) := by decide +kernel
theorem dX8_carry_1 : decode cX8_carry 1 = .ok (.getfield 11, 3) := by decide +kernel
theorem dX8_carry_4 : decode cX8_carry 4 = .ok (.iload_n 1, 1) := by decide +kernel
theorem dX8_carry_5 : decode cX8_carry 5 = .ok (.aaload, 1) := by decide +kernel
theorem dX8_carry_6 : decode cX8_carry 6 = .ok (.iload_n 2, 1) := by decide +kernel
theorem dX8_carry_7 : decode cX8_carry 7 = .ok (.aload_n 0, 1) := by decide +kernel
theorem dX8_carry_8 : decode cX8_carry 8 = .ok (.getfield 11, 3) := by decide +kernel
theorem dX8_carry_11 : decode cX8_carry 11 = .ok (.iload_n 3, 1) := by decide +kernel
theorem dX8_carry_12 : decode cX8_carry 12 = .ok (.aaload, 1) := by decide +kernel
theorem dX8_carry_13 : decode cX8_carry 13 = .ok (.iload 4, 2) := by decide +kernel
theorem dX8_carry_15 : decode cX8_carry 15 = .ok (.iload 5, 2) := by decide +kernel
theorem dX8_carry_17 : decode cX8_carry 17 = .ok (.invokestatic 37, 3) := by decide +kernel
theorem dX8_carry_20 : decode cX8_carry 20 = .ok (.return_, 1) := by decide +kernel
theorem dX9_init_0 : decode cX9_init 0 = .ok (.aload_n 0, 1) := by decide +kernel
theorem dX9_init_1 : decode cX9_init 1 = .ok (.invokespecial 3, 3) := by decide +kernel
theorem dX9_init_4 : decode cX9_init 4 = .ok (.aload_n 0, 1) := by decide +kernel
theorem dX9_init_5 : decode cX9_init 5 = .ok (.bipush 16, 2) := by decide +kernel
theorem dX9_init_7 : decode cX9_init 7 = .ok (.newarray .int, 2) := by decide +kernel
theorem dX9_init_9 : decode cX9_init 9 = .ok (.putfield 9, 3) := by decide +kernel
theorem dX9_init_12 : decode cX9_init 12 = .ok (.return_, 1) := by decide +kernel
theorem dX9_clear_0 : decode cX9_clear 0 = .ok (.aload_n 0, 1) := by decide +kernel
theorem dX9_clear_1 : decode cX9_clear 1 = .ok (.iconst 0, 1) := by decide +kernel
theorem dX9_clear_2 : decode cX9_clear 2 = .ok (.putfield 15, 3) := by decide +kernel
theorem dX9_clear_5 : decode cX9_clear 5 = .ok (.return_, 1) := by decide +kernel
theorem dX9_leave_0 : decode cX9_leave 0 = .ok (.aload_n 0, 1) := by decide +kernel
theorem dX9_leave_1 : decode cX9_leave 1 = .ok (.getfield 15, 3) := by decide +kernel
theorem dX9_leave_4 : decode cX9_leave 4 = .ok (.aload_n 0, 1) := by decide +kernel
theorem dX9_leave_5 : decode cX9_leave 5 = .ok (.getfield 9, 3) := by decide +kernel
theorem dX9_leave_8 : decode cX9_leave 8 = .ok (.arraylength, 1) := by decide +kernel
theorem dX9_leave_9 : decode cX9_leave 9 = .ok (.if_icmp .ge 23, 3) := by decide +kernel
theorem dX9_leave_12 : decode cX9_leave 12 = .ok (.aload_n 0, 1) := by decide +kernel
theorem dX9_leave_13 : decode cX9_leave 13 = .ok (.getfield 9, 3) := by decide +kernel
theorem dX9_leave_16 : decode cX9_leave 16 = .ok (.aload_n 0, 1) := by decide +kernel
theorem dX9_leave_17 : decode cX9_leave 17 = .ok (.getfield 15, 3) := by decide +kernel
theorem dX9_leave_20 : decode cX9_leave 20 = .ok (.iload_n 1, 1) := by decide +kernel
theorem dX9_leave_21 : decode cX9_leave 21 = .ok (.iastore, 1) := by decide +kernel
theorem dX9_leave_22 : decode cX9_leave 22 = .ok (.aload_n 0, 1) := by decide +kernel
theorem dX9_leave_23 : decode cX9_leave 23 = .ok (.dup, 1) := by decide +kernel
theorem dX9_leave_24 : decode cX9_leave 24 = .ok (.getfield 15, 3) := by decide +kernel
theorem dX9_leave_27 : decode cX9_leave 27 = .ok (.iconst 1, 1) := by decide +kernel
theorem dX9_leave_28 : decode cX9_leave 28 = .ok (.iadd, 1) := by decide +kernel
theorem dX9_leave_29 : decode cX9_leave 29 = .ok (.putfield 15, 3) := by decide +kernel
theorem dX9_leave_32 : decode cX9_leave 32 = .ok (.return_, 1) := by decide +kernel
theorem dX9_numberAt_0 : decode cX9_numberAt 0 = .ok (.iload_n 1, 1) := by decide +kernel
theorem dX9_numberAt_1 : decode cX9_numberAt 1 = .ok (.ifCond .lt 20, 3) := by decide +kernel
theorem dX9_numberAt_4 : decode cX9_numberAt 4 = .ok (.iload_n 1, 1) := by decide +kernel
theorem dX9_numberAt_5 : decode cX9_numberAt 5 = .ok (.aload_n 0, 1) := by decide +kernel
theorem dX9_numberAt_6 : decode cX9_numberAt 6 = .ok (.getfield 15, 3) := by decide +kernel
theorem dX9_numberAt_9 : decode cX9_numberAt 9 = .ok (.if_icmp .ge 12, 3) := by decide +kernel
theorem dX9_numberAt_12 : decode cX9_numberAt 12 = .ok (.aload_n 0, 1) := by decide +kernel
theorem dX9_numberAt_13 : decode cX9_numberAt 13 = .ok (.getfield 9, 3) := by decide +kernel
theorem dX9_numberAt_16 : decode cX9_numberAt 16 = .ok (.iload_n 1, 1) := by decide +kernel
theorem dX9_numberAt_17 : decode cX9_numberAt 17 = .ok (.iaload, 1) := by decide +kernel
theorem dX9_numberAt_18 : decode cX9_numberAt 18 = .ok (.goto 5, 3) := by decide +kernel
theorem dX9_numberAt_21 : decode cX9_numberAt 21 = .ok (.ldc 19, 2) := by decide +kernel
theorem dX9_numberAt_23 : decode cX9_numberAt 23 = .ok (.ireturn, 1) := by decide +kernel
theorem dX10_init_0 : decode cX10_init 0 = .ok (.aload_n 0, 1) := by decide +kernel
theorem dX10_init_1 : decode cX10_init 1 = .ok (.iload_n 1, 1) := by decide +kernel
theorem dX10_init_2 : decode cX10_init 2 = .ok (.iload_n 2, 1) := by decide +kernel
theorem dX10_init_3 : decode cX10_init 3 = .ok (.invokespecial 3, 3) := by decide +kernel
theorem dX10_init_6 : decode cX10_init 6 = .ok (.return_, 1) := by decide +kernel
theorem dX10_kindTold_0 : decode cX10_kindTold 0 = .ok (.iconst 2, 1) := by decide +kernel
theorem dX10_kindTold_1 : decode cX10_kindTold 1 = .ok (.ireturn, 1) := by decide +kernel
theorem dX10_sunIn_0 : decode cX10_sunIn 0 = .ok (.iload_n 1, 1) := by decide +kernel
theorem dX10_sunIn_1 : decode cX10_sunIn 1 = .ok (.bipush 24, 2) := by decide +kernel
theorem dX10_sunIn_3 : decode cX10_sunIn 3 = .ok (.irem, 1) := by decide +kernel
theorem dX10_sunIn_4 : decode cX10_sunIn 4 = .ok (.istore_n 2, 1) := by decide +kernel
theorem dX10_sunIn_5 : decode cX10_sunIn 5 = .ok (.iload_n 2, 1) := by decide +kernel
theorem dX10_sunIn_6 : decode cX10_sunIn 6 = .ok (.bipush 6, 2) := by decide +kernel
theorem dX10_sunIn_8 : decode cX10_sunIn 8 = .ok (.if_icmp .lt 13, 3) := by decide +kernel
theorem dX10_sunIn_11 : decode cX10_sunIn 11 = .ok (.iload_n 2, 1) := by decide +kernel
theorem dX10_sunIn_12 : decode cX10_sunIn 12 = .ok (.bipush 17, 2) := by decide +kernel
theorem dX10_sunIn_14 : decode cX10_sunIn 14 = .ok (.if_icmp .gt 7, 3) := by decide +kernel
theorem dX10_sunIn_17 : decode cX10_sunIn 17 = .ok (.iconst 1, 1) := by decide +kernel
theorem dX10_sunIn_18 : decode cX10_sunIn 18 = .ok (.goto 4, 3) := by decide +kernel
theorem dX10_sunIn_21 : decode cX10_sunIn 21 = .ok (.iconst 0, 1) := by decide +kernel
theorem dX10_sunIn_22 : decode cX10_sunIn 22 = .ok (.ireturn, 1) := by decide +kernel
theorem dX10_askSize_0 : decode cX10_askSize 0 = .ok (.aload_n 1, 1) := by decide +kernel
theorem dX10_askSize_1 : decode cX10_askSize 1 = .ok (.bipush 12, 2) := by decide +kernel
theorem dX10_askSize_3 : decode cX10_askSize 3 = .ok (.invokevirtual 9, 3) := by decide +kernel
theorem dX10_askSize_6 : decode cX10_askSize 6 = .ok (.aload_n 0, 1) := by decide +kernel
theorem dX10_askSize_7 : decode cX10_askSize 7 = .ok (.aload_n 1, 1) := by decide +kernel
theorem dX10_askSize_8 : decode cX10_askSize 8 = .ok (.iload_n 2, 1) := by decide +kernel
theorem dX10_askSize_9 : decode cX10_askSize 9 = .ok (.invokespecial 15, 3) := by decide +kernel
theorem dX10_askSize_12 : decode cX10_askSize 12 = .ok (.ineg, 1) := by decide +kernel
theorem dX10_askSize_13 : decode cX10_askSize 13 = .ok (.ireturn, 1) := by decide +kernel
theorem dX10_askMark_0 : decode cX10_askMark 0 = .ok (.aload_n 1, 1) := by decide +kernel
theorem dX10_askMark_1 : decode cX10_askMark 1 = .ok (.bipush 24, 2) := by decide +kernel
theorem dX10_askMark_3 : decode cX10_askMark 3 = .ok (.invokevirtual 9, 3) := by decide +kernel
theorem dX10_askMark_6 : decode cX10_askMark 6 = .ok (.iconst 2, 1) := by decide +kernel
theorem dX10_askMark_7 : decode cX10_askMark 7 = .ok (.aload_n 0, 1) := by decide +kernel
theorem dX10_askMark_8 : decode cX10_askMark 8 = .ok (.aload_n 1, 1) := by decide +kernel
theorem dX10_askMark_9 : decode cX10_askMark 9 = .ok (.iload_n 2, 1) := by decide +kernel
theorem dX10_askMark_10 : decode cX10_askMark 10 = .ok (.invokespecial 19, 3) := by decide +kernel
theorem dX10_askMark_13 : decode cX10_askMark 13 = .ok (.imul, 1) := by decide +kernel
theorem dX10_askMark_14 : decode cX10_askMark 14 = .ok (.ireturn, 1) := by decide +kernel
